/-! String constants and what String's methods need -/
abbrev gp_sx : List (Nat × String) := [(86, "at"), (99, "go"), (104, "stay"), (110, "rise"), (115, "light"), (120, "do"), (125, "repeat"), (130, "figure"), (153, "to"), (159, "in"), (161, "on"), (163, "off")]
abbrev gp_len : List Nat := [2, 2, 4, 4, 5, 2, 6, 6, 2, 2, 2, 3]
abbrev gp_byt : List (List Int32) := [[97, 116], [103, 111], [115, 116, 97, 121], [114, 105, 115, 101], [108, 105, 103, 104, 116], [100, 111], [114, 101, 112, 101, 97, 116], [102, 105, 103, 117, 114, 101], [116, 111], [105, 110], [111, 110], [111, 102, 102]]
def gp_ln (k : Nat) : Int32 := Int32.ofNat (gp_len.getD k 0)
theorem gp_len6 (k : Nat) : gp_len.getD k 0 ≤ 6 := by
  by_cases h : k < 12
  · have : ∀ j : Fin 12, gp_len.getD j.val 0 ≤ 6 := by decide
    exact this ⟨k, h⟩
  · have e : gp_len.getD k 0 = 0 := by
      rw [List.getD_eq_getElem?_getD, List.getElem?_eq_none (by simp; omega)]
      rfl
    omega
theorem gp_lnT (k : Nat) : (gp_ln k).toInt = gp_len.getD k 0 := by
  have h := gp_len6 k
  unfold gp_ln
  generalize gp_len.getD k 0 = n at h
  exact Int32.toInt_ofNat_of_lt (by omega)
theorem gp_ln_in (k : Nat) : sp_in (gp_ln k) 0 6 := by
  have h := gp_len6 k
  have e := gp_lnT k
  have e0 : (0 : Int32).toInt = 0 := by decide
  have e6 : (6 : Int32).toInt = 6 := by decide
  exact ⟨Int32.le_iff_toInt_le.mpr (by omega), Int32.le_iff_toInt_le.mpr (by omega)⟩
theorem gp_lnin {i : Int32} {k : Nat} (h0 : 0 ≤ i) (h1 : i < gp_ln k) : vp_in i (gp_len.getD k 0) := by
  rw [vp_in_iff]
  have e0 : (0 : Int32).toInt = 0 := by decide
  have a0 := Int32.le_iff_toInt_le.mp h0
  have a1 := Int32.lt_iff_toInt_lt.mp h1
  rw [gp_lnT] at a1
  omega
def gp_Z (sk sv : Nat → Nat) (A : Nat → Prop) (U : State) (H : Heap) : Prop := vk_S 12 gp_len gp_byt sk sv A U H ∧ va_Z RJ0 "COMPACT_STRINGS" "Z" (.int 1) A U H ∧ va_Zq "jdk/internal/util/Preconditions" "SIOOBE_FORMATTER" "Ljava/util/function/BiFunction;" A U H ∧ (∀ i : Nat, i < 12 → vk_R RX6 (gp_sx.getD i (0, "")).1 (gp_sx.getD i (0, "")).2 (sk i) U)
theorem gp_Z_warm {sk sv : Nat → Nat} {A : Nat → Prop} {s U : State} {H : Heap} (hW : s.WarmedH U.vm) (h : gp_Z sk sv A s H) : gp_Z sk sv A U H := ⟨vk_S.moved hW.alike h.1, va_Z.moved hW.alike h.2.1, va_Zq.moved hW.alike h.2.2.1, fun i hi => vk_R.warm hW (h.2.2.2 i hi)⟩
theorem gp_Z_same {sk sv : Nat → Nat} {A : Nat → Prop} {s U : State} {H : Heap} (hv : U.vm = s.vm) (h : gp_Z sk sv A s H) : gp_Z sk sv A U H := by
  have ha : s.vm.Alike U.vm := by rw [hv]; exact Vm.Alike.refl _
  exact ⟨vk_S.moved ha h.1, va_Z.moved ha h.2.1, va_Zq.moved ha h.2.2.1, fun i hi => vk_R.same hv (h.2.2.2 i hi)⟩
theorem gp_Z_call {sk sv : Nat → Nat} {A B : Nat → Prop} {s : State} {H : Heap} {locs : List Loc} (hZ : gp_Z sk sv A s s.heap) (hS : va_S A s.heap H locs) (hF : ∀ q, B q → A q) : gp_Z sk sv B s H :=
  ⟨(hZ.1.kept hS.2.1).narrow hF, (hZ.2.1.kept hS.2.1).narrow hF, (hZ.2.2.1.kept hS.2.1).narrow hF, hZ.2.2.2⟩
def gp_BS (D : va_G) (cy : Nat → ClassId) (sz : Nat) (ws : va_W) (sk sv : Nat → Nat) : State → Prop := fun U => gp_B D cy sz ws U ∧ gp_Z sk sv (va_A ws sz) U U.heap
theorem gp_blindS {D : va_G} {cy : Nat → ClassId} {sz : Nat} {ws : va_W} {sk sv : Nat → Nat} {av : List Value} : FrameBlind (va_Pc av (gp_BS D cy sz ws sk sv)) := fun a U g mk q => ⟨q.1, (gp_blind (D := D) (cy := cy) (sz := sz) (ws := ws) (av := av) a U g mk ⟨q.1, q.2.1⟩).2, gp_Z_same (s := U) (U := U.calling g mk a) rfl q.2.2⟩
theorem gp_preSS {s : State} {H : Heap} {D : va_G} {cy : Nat → ClassId} {ws : va_W} {A : Nat → Prop} {As : List Value} {sk sv : Nat → Nat} {locs : List Loc} (hZ : gp_Z sk sv A s s.heap) (hS : va_S A s.heap H locs) (hF : ∀ q, va_A ws H.size q → A q) (hP : va_P D vwCl ws H) (hD : va_D A ws) (hK : va_K D vwCl (gp_T cy) s) (hN : gp_N s) : PreS s H (va_Pc As (gp_BS D cy H.size ws sk sv)) As :=
  ⟨gp_blindS, fun U hU hW => ⟨((gp_preS (As := As) hP hD hK hN).2 U hU hW).1, ((gp_preS (As := As) hP hD hK hN).2 U hU hW).2, by rw [hU]; exact gp_Z_warm hW (gp_Z_call hZ hS hF)⟩⟩
theorem gp_preVS {s : State} {H : Heap} {D : va_G} {cy : Nat → ClassId} {ws : va_W} {A : Nat → Prop} {As : List Value} {b : Nat} {sk sv : Nat → Nat} {locs : List Loc} (hZ : gp_Z sk sv A s s.heap) (hS : va_S A s.heap H locs) (hF : ∀ q, va_A ws H.size q → A q) (q : vw_C) (ci q0 : Nat) {fs : List Value} (hP : va_P D vwCl ws H) (hD : va_D A ws) (hK : va_K D vwCl (gp_T cy) s) (hN : gp_N s) (hc : vwCl[ci]? = some q) (he : ws[q0]? = some (b, .inr (ci, fs))) : PreV s H q.1 b (va_Pc (.ref b :: As) (gp_BS D cy H.size ws sk sv)) As :=
  ⟨gp_blindS, va_recv hK hP hc he, fun U hU hW => ⟨((gp_preS (As := .ref b :: As) hP hD hK hN).2 U hU hW).1, ((gp_preS (As := .ref b :: As) hP hD hK hN).2 U hU hW).2, by rw [hU]; exact gp_Z_warm hW (gp_Z_call hZ hS hF)⟩⟩
theorem gp_preVJ {s : State} {H : Heap} {D : va_G} {cy : Nat → ClassId} {ws : va_W} {A : Nat → Prop} {As : List Value} {sk sv : Nat → Nat} {locs : List Loc} {ks : Nat} (hks : ks < 12) (hZ : gp_Z sk sv A s s.heap) (hS : va_S A s.heap H locs) (hF : ∀ q, va_A ws H.size q → A q) (hP : va_P D vwCl ws H) (hD : va_D A ws) (hK : va_K D vwCl (gp_T cy) s) (hN : gp_N s) : PreV s H RJ0 (sk ks) (va_Pc (.ref (sk ks) :: As) (gp_BS D cy H.size ws sk sv)) As :=
  ⟨gp_blindS, vk_recv hZ.1 hks hS, fun U hU hW => ⟨((gp_preS (As := .ref (sk ks) :: As) hP hD hK hN).2 U hU hW).1, ((gp_preS (As := .ref (sk ks) :: As) hP hD hK hN).2 U hU hW).2, by rw [hU]; exact gp_Z_warm hW (gp_Z_call hZ hS hF)⟩⟩
theorem gp_metS {l : Launch} {y : MethodName} {ws ws' : List Cond} {rm : Room} {av : List Value} {D : va_G} {cy : Nat → ClassId} {sz : Nat} {W0 : va_W} {sk sv : Nat → Nat} {Qc : (Nat → Prop) → Array Value → State → Outcome → State → Prop} {mc ms : Nat} {cc : ByteArray} {maxL : Nat} {ret : Option FieldType} (hy : plainFor y = true) (hw : ws = Cond.code y cc maxL ret :: ws') (hlen : (lg_sl av).length ≤ maxL)
    (body : ∀ (p : Program) (e : Env) (s : State) (m : MethodId) (below : List Frame) (meth : Method) (c : Code) (A : Nat → Prop) (ls : Array Slot) (H : Heap), p.tables.exec = Jvm.exec → c.code = cc → c.maxLocals = maxL → meth.sig.returnType = ret → meth.locks = false → (∀ w ∈ ws, w.before av.toArray s = true) → s.vm.findClass y.cls = some m.cls → meth.name = y.name → va_K D vwCl (gp_T cy) s → gp_N s → gp_Z sk sv A s s.heap → va_S A s.heap H [] → va_P D vwCl W0 H → va_D A W0 → (∀ q : Nat, s.heap.size ≤ q → A q) → lv_has ls maxL (lv_args 0 av) → W p l e (headSpec ws rm).room s m av.toArray below meth c H [] 0 0 (MQ below (Qc A) av.toArray s mc ms A) (F0 m 0 ls [])) :
    Met l y ws rm (va_Pc av (gp_BS D cy sz W0 sk sv)) (Qc (va_A W0 sz)) mc ms (va_A W0 sz) := by
  refine gp_ofWF (cc := cc) (maxL := maxL) (ret := ret) hy hw ?_
  intro p e s m args below meth c s₁ B hml hv
  obtain ⟨rfl, ⟨hsz, hP, hK, hD0, hN⟩, hZ⟩ := hv
  subst hsz
  have hl := lv_entry av (n := maxL) hlen
  rw [lg_entry_eq]
  exact body p e s m below meth c _ _ s.heap B.exec B.bytes hml B.returns B.notSynchronized (atoms_spec (ws := ws) B.pre) (findClass_of_methodNamed B.named) (name_of_methodNamed B.named B.method).1 hK hN hZ va_S.rf hP (hD0.self (sz := s.heap.size)) (fun q h => Or.inr h) hl
theorem gp_shr0 (x : Int32) : x >>> ((0 : Int32) &&& 31) = x := by
  have e : ((0 : Int32) &&& 31) = 0 := by decide
  rw [e]
  exact Int32.shiftRight_zero
theorem gp_nC {v : Int32} : narrow .char (.int ((v.toUInt32 % 65536).toInt32)) = .int ((v.toUInt32 % 65536).toInt32) := by
  show Value.int _ = Value.int _
  refine congrArg Value.int ?_
  rw [lg_i2c_nf]
  refine Int32.toInt_inj.mp ?_
  rw [lg_i2c_toInt, lg_i2c_toInt]
  omega
theorem gp_sw1 {f t wf wt ii : Int32} (hf : sp_in f 0 600) (ht : sp_in t 0 600) (h0 : sp_in wf 0 600) (h1 : sp_in wt 0 600) (e : (wt - wf) = (t - f)) (hi : sp_in ii 0 600) (hc : ¬ wt ≤ (wf + ii)) : sp_in (wf + ii) 0 599 ∧ sp_in (f + ii) 0 599 ∧ sp_in (ii + 1) 0 600 ∧ ii < wt - wf := by
  have c0 : (0 : Int32).toInt = 0 := by decide
  have c1 : (1 : Int32).toInt = 1 := by decide
  have c2 : (600 : Int32).toInt = 600 := by decide
  have c3 : (599 : Int32).toInt = 599 := by decide
  have tI : ∀ v : Int32, sp_in v 0 600 → 0 ≤ v.toInt ∧ v.toInt ≤ 600 := fun v h => ⟨by have := Int32.le_iff_toInt_le.mp h.1; omega, by have := Int32.le_iff_toInt_le.mp h.2; omega⟩
  have b : ∀ z : Int, -2147483648 ≤ z → z < 2147483648 → z.bmod (2 ^ 32) = z := fun z h1 h2 => Int.bmod_eq_of_le (by omega) (by omega)
  obtain ⟨f1, f2⟩ := tI f hf
  obtain ⟨t1, t2⟩ := tI t ht
  obtain ⟨g1, g2⟩ := tI wf h0
  obtain ⟨k1, k2⟩ := tI wt h1
  obtain ⟨i1, i2⟩ := tI ii hi
  have e1 : (wt - wf).toInt = wt.toInt - wf.toInt := by rw [Int32.toInt_sub]; exact b _ (by omega) (by omega)
  have e2 : (t - f).toInt = t.toInt - f.toInt := by rw [Int32.toInt_sub]; exact b _ (by omega) (by omega)
  have e3 : (wf + ii).toInt = wf.toInt + ii.toInt := by rw [Int32.toInt_add]; exact b _ (by omega) (by omega)
  have e4 : (f + ii).toInt = f.toInt + ii.toInt := by rw [Int32.toInt_add]; exact b _ (by omega) (by omega)
  have e5 : (ii + 1).toInt = ii.toInt + 1 := by rw [Int32.toInt_add, c1]; exact b _ (by omega) (by omega)
  have hc' : ¬ wt.toInt ≤ (wf + ii).toInt := fun z => hc (Int32.le_iff_toInt_le.mpr z)
  have e6 : (wt - wf).toInt = (t - f).toInt := by rw [e]
  have mk : ∀ (v : Int32) (hi : Int32), 0 ≤ v.toInt → v.toInt ≤ hi.toInt → sp_in v 0 hi := fun v hi a b => ⟨Int32.le_iff_toInt_le.mpr (by omega), Int32.le_iff_toInt_le.mpr b⟩
  exact ⟨mk _ _ (by omega) (by omega), mk _ _ (by omega) (by omega), mk _ _ (by omega) (by omega), Int32.lt_iff_toInt_lt.mpr (by omega)⟩

theorem lf_sJ3_null_1 (ix : Int32) (n : Int32) (q0 : 0 ≤ ix) (q1 : ix < n) : ¬ ix < 0 := by
  first | grind | (simp only [sp_in, sp_pl, sp_far, sp_two] at *; grind)
theorem lf_sJ3_null_2 (ix : Int32) (n : Int32) (q0 : 0 ≤ ix) (q1 : ix < n) (c_1 : ¬ ix < 0) (c_2 : ix < n) : ix = ix := by
  first | grind | (simp only [sp_in, sp_pl, sp_far, sp_two] at *; grind)
def v_sJ3_null : List Cond := .code yJ3_checkIndex_8e157 cJ3_checkIndex_8e157 3 (some .int) :: (([] : List Cond))
set_option maxHeartbeats 4000000 in
set_option maxRecDepth 100000 in
theorem sJ3_null (l : Launch) (D : va_G) (cy : Nat → ClassId) (sz : Nat) (xa : Nat → Nat) (ix : Int32) (n : Int32) (q0 : 0 ≤ ix) (q1 : ix < n) : Met l yJ3_checkIndex_8e157 v_sJ3_null ({ frames := 0, cells := 0, slots := 0, locals := 0 } : Room) (va_Pc [.int ix, .int n, .null] (gp_B D cy sz [])) (va_Qi (fun (r : Int32) (u : Unit) => (r = ix)) (fun u => gp_E D (va_A [] sz) []) (va_A [] sz)) 0 0 (va_A [] sz) := by
  refine gp_metF (Qc := fun A => va_Qi (fun (r : Int32) (u : Unit) => (r = ix)) (fun u => gp_E D A []) A) (cc := cJ3_checkIndex_8e157) (maxL := 3) (ret := (some .int)) (by decide +kernel) rfl (Nat.le_of_ble_eq_true rfl) ?_
  intro p e s m below meth c A ls H hx hb hml hr hlocks hts hown hin hK hN hS hP hD hA hl
  have hown : s.vm.findClass RJ3 = some m.cls := hown
  have hl : lv_has ls 3 [(0, .int ix), (1, .int n), (2, .null)] := hl
  refine lv_iload_n hx hb dJ3_checkIndex_8e157_0 rfl (lv_at hl 0 rfl) ?_
  refine lv_if_lt (tgt := 9) hx hb dJ3_checkIndex_8e157_1 (by decide) (fun c_1 => absurd c_1 (lf_sJ3_null_1 ix n q0 q1)) (fun c_1 => ?_)
  refine lv_iload_n hx hb dJ3_checkIndex_8e157_4 rfl (lv_at hl 0 rfl) ?_
  refine lv_iload_n hx hb dJ3_checkIndex_8e157_5 rfl (lv_at hl 1 rfl) ?_
  refine lv_icmp_lt (tgt := 16) hx hb dJ3_checkIndex_8e157_6 (by decide) (fun c_2 => ?_) (fun c_2 => absurd q1 c_2)
  refine lv_iload_n hx hb dJ3_checkIndex_8e157_16 rfl (lv_at hl 0 rfl) ?_
  exact W.iret (v := ix) hx hb hr (fun t ht hW => ⟨⟨ix, (), rfl, (lf_sJ3_null_2 ix n q0 q1 c_1 c_2), gp_end ht hP hD⟩, hS.F ht⟩) hS.2.2 dJ3_checkIndex_8e157_17

theorem lf_sJ3_ref_1 (ix : Int32) (n : Int32) (q0 : 0 ≤ ix) (q1 : ix < n) : ¬ ix < 0 := by
  first | grind | (simp only [sp_in, sp_pl, sp_far, sp_two] at *; grind)
theorem lf_sJ3_ref_2 (ix : Int32) (n : Int32) (q0 : 0 ≤ ix) (q1 : ix < n) (c_1 : ¬ ix < 0) (c_2 : ix < n) : ix = ix := by
  first | grind | (simp only [sp_in, sp_pl, sp_far, sp_two] at *; grind)
def v_sJ3_ref : List Cond := .code yJ3_checkIndex_8e157 cJ3_checkIndex_8e157 3 (some .int) :: (([] : List Cond))
set_option maxHeartbeats 4000000 in
set_option maxRecDepth 100000 in
theorem sJ3_ref (l : Launch) (D : va_G) (cy : Nat → ClassId) (sz : Nat) (xa : Nat → Nat) (ix : Int32) (n : Int32) (ft : Nat) (q0 : 0 ≤ ix) (q1 : ix < n) : Met l yJ3_checkIndex_8e157 v_sJ3_ref ({ frames := 0, cells := 0, slots := 0, locals := 0 } : Room) (va_Pc [.int ix, .int n, .ref ft] (gp_B D cy sz [])) (va_Qi (fun (r : Int32) (u : Unit) => (r = ix)) (fun u => gp_E D (va_A [] sz) []) (va_A [] sz)) 0 0 (va_A [] sz) := by
  refine gp_metF (Qc := fun A => va_Qi (fun (r : Int32) (u : Unit) => (r = ix)) (fun u => gp_E D A []) A) (cc := cJ3_checkIndex_8e157) (maxL := 3) (ret := (some .int)) (by decide +kernel) rfl (Nat.le_of_ble_eq_true rfl) ?_
  intro p e s m below meth c A ls H hx hb hml hr hlocks hts hown hin hK hN hS hP hD hA hl
  have hown : s.vm.findClass RJ3 = some m.cls := hown
  have hl : lv_has ls 3 [(0, .int ix), (1, .int n), (2, .ref ft)] := hl
  refine lv_iload_n hx hb dJ3_checkIndex_8e157_0 rfl (lv_at hl 0 rfl) ?_
  refine lv_if_lt (tgt := 9) hx hb dJ3_checkIndex_8e157_1 (by decide) (fun c_1 => absurd c_1 (lf_sJ3_ref_1 ix n q0 q1)) (fun c_1 => ?_)
  refine lv_iload_n hx hb dJ3_checkIndex_8e157_4 rfl (lv_at hl 0 rfl) ?_
  refine lv_iload_n hx hb dJ3_checkIndex_8e157_5 rfl (lv_at hl 1 rfl) ?_
  refine lv_icmp_lt (tgt := 16) hx hb dJ3_checkIndex_8e157_6 (by decide) (fun c_2 => ?_) (fun c_2 => absurd q1 c_2)
  refine lv_iload_n hx hb dJ3_checkIndex_8e157_16 rfl (lv_at hl 0 rfl) ?_
  exact W.iret (v := ix) hx hb hr (fun t ht hW => ⟨⟨ix, (), rfl, (lf_sJ3_ref_2 ix n q0 q1 c_1 c_2), gp_end ht hP hD⟩, hS.F ht⟩) hS.2.2 dJ3_checkIndex_8e157_17

def v_sJ0_checkIndex : List Cond := .code yJ0_checkIndex_df160 cJ0_checkIndex_df160 2 none :: (([.fieldLink RJ0 1053 "jdk/internal/util/Preconditions" "SIOOBE_FORMATTER" "Ljava/util/function/BiFunction;", .code yJ3_checkIndex_8e157 cJ3_checkIndex_8e157 3 (some .int), .methodLink RJ0 1059 yJ3_checkIndex_8e157, .static yJ3_checkIndex_8e157, .initialized RJ3] : List Cond))
set_option maxRecDepth 20000 in
theorem gg_sJ0_checkIndex_sJ3_null : GoodIn v_sJ0_checkIndex v_sJ3_null := goodIn_r (.code yJ3_checkIndex_8e157 cJ3_checkIndex_8e157 3 (some .int) :: []) [2] (by first | rfl | decide +kernel) (by decide +kernel)
set_option maxRecDepth 20000 in
theorem g_sJ0_checkIndex_sJ3_null_0 : GoodIn v_sJ0_checkIndex (va_wsS RJ0 1059 yJ3_checkIndex_8e157 v_sJ3_null) := goodIn_app (goodIn_r [.methodLink RJ0 1059 yJ3_checkIndex_8e157, .static yJ3_checkIndex_8e157, .initialized RJ3] [3, 4, 5] rfl (by decide +kernel)) gg_sJ0_checkIndex_sJ3_null
set_option maxRecDepth 20000 in
theorem gg_sJ0_checkIndex_sJ3_ref : GoodIn v_sJ0_checkIndex v_sJ3_ref := goodIn_r (.code yJ3_checkIndex_8e157 cJ3_checkIndex_8e157 3 (some .int) :: []) [2] (by first | rfl | decide +kernel) (by decide +kernel)
set_option maxRecDepth 20000 in
theorem g_sJ0_checkIndex_sJ3_ref_1 : GoodIn v_sJ0_checkIndex (va_wsS RJ0 1059 yJ3_checkIndex_8e157 v_sJ3_ref) := goodIn_app (goodIn_r [.methodLink RJ0 1059 yJ3_checkIndex_8e157, .static yJ3_checkIndex_8e157, .initialized RJ3] [3, 4, 5] rfl (by decide +kernel)) gg_sJ0_checkIndex_sJ3_ref
set_option maxHeartbeats 4000000 in
set_option maxRecDepth 100000 in
theorem sJ0_checkIndex (l : Launch) (D : va_G) (cy : Nat → ClassId) (sz : Nat) (xa : Nat → Nat) (sk : Nat → Nat) (sv : Nat → Nat) (ix : Int32) (n : Int32) (q0 : 0 ≤ ix) (q1 : ix < n) : Met l yJ0_checkIndex_df160 v_sJ0_checkIndex ({ frames := 1, cells := 0, slots := 0, locals := 22 } : Room) (va_Pc [.int ix, .int n] (gp_BS D cy sz [] sk sv)) (va_Qv (fun (u : Unit) => True) (fun u => gp_E D (va_A [] sz) []) (va_A [] sz)) 0 0 (va_A [] sz) := by
  refine gp_metS (Qc := fun A => va_Qv (fun (u : Unit) => True) (fun u => gp_E D A []) A) (cc := cJ0_checkIndex_df160) (maxL := 2) (ret := none) (by decide +kernel) rfl (Nat.le_of_ble_eq_true rfl) ?_
  intro p e s m below meth c A ls H hx hb hml hr hlocks hts hown hin hK hN hZ hS hP hD hA hl
  have hown : s.vm.findClass RJ0 = some m.cls := hown
  have hl : lv_has ls 2 [(0, .int ix), (1, .int n)] := hl
  refine lv_iload_n hx hb dJ0_checkIndex_df160_0 rfl (lv_at hl 0 rfl) ?_
  refine lv_iload_n hx hb dJ0_checkIndex_df160_1 rfl (lv_at hl 1 rfl) ?_
  rcases hZ.2.2.1 with hZq | ⟨ft, hZq⟩
  · refine va_gets (C := "jdk/internal/util/Preconditions") (n := "SIOOBE_FORMATTER") (d := "Ljava/util/function/BiFunction;") (v := .null) hx hb hZq hS hown (hts (.fieldLink RJ0 1053 "jdk/internal/util/Preconditions" "SIOOBE_FORMATTER" "Ljava/util/function/BiFunction;") (List.mem_of_getElem? (i := 1) rfl)) (fun _ h9 => h9) dJ0_checkIndex_df160_2 ?_
    have hPc := hP.sub (ws' := []) [] rfl
    have hDc := hD.sub (ws' := []) [] (by decide) rfl
    have hFc := va_free (wc := []) hD hS hA [] rfl
    refine va_calli (va_runS (As := [.int ix, .int n, .null]) (rest := []) ⟨hx, hb, hml, hown, hts⟩ (sJ3_null l D cy H.size xa ix n q0 q1) (va_cwS 3 hts g_sJ0_checkIndex_sJ3_null_0 rfl rfl rfl (by decide +kernel) ⟨Nat.le_of_ble_eq_true rfl, Nat.le_of_ble_eq_true rfl⟩) (gp_preS hPc hDc hK hN) rfl rfl hl.1 rfl (lv_room (Nat.le_of_ble_eq_true rfl)) dJ0_checkIndex_df160_5 ⟨Nat.le_of_ble_eq_true rfl, Nat.le_of_ble_eq_true rfl⟩) hS (fun q _ h => hFc q h) hFc (fun r_1 u t H locs ht hvm hw hB hz1 hk1 hS => ?_)
    have hP := gp_joinU (wc := []) hP hD [] rfl hk1 ht hB
    have w_2 := hw
    refine lv_pop hx hb dJ0_checkIndex_df160_8 rfl ?_
    exact W.vret hx hb hr (fun t ht hW => ⟨⟨(), rfl, trivial, gp_end ht hP hD⟩, hS.F ht⟩) hS.2.2 dJ0_checkIndex_df160_9
  · refine va_gets (C := "jdk/internal/util/Preconditions") (n := "SIOOBE_FORMATTER") (d := "Ljava/util/function/BiFunction;") (v := .ref ft) hx hb hZq hS hown (hts (.fieldLink RJ0 1053 "jdk/internal/util/Preconditions" "SIOOBE_FORMATTER" "Ljava/util/function/BiFunction;") (List.mem_of_getElem? (i := 1) rfl)) (fun _ h9 => h9) dJ0_checkIndex_df160_2 ?_
    have hPc := hP.sub (ws' := []) [] rfl
    have hDc := hD.sub (ws' := []) [] (by decide) rfl
    have hFc := va_free (wc := []) hD hS hA [] rfl
    refine va_calli (va_runS (As := [.int ix, .int n, .ref ft]) (rest := []) ⟨hx, hb, hml, hown, hts⟩ (sJ3_ref l D cy H.size xa ix n ft q0 q1) (va_cwS 3 hts g_sJ0_checkIndex_sJ3_ref_1 rfl rfl rfl (by decide +kernel) ⟨Nat.le_of_ble_eq_true rfl, Nat.le_of_ble_eq_true rfl⟩) (gp_preS hPc hDc hK hN) rfl rfl hl.1 rfl (lv_room (Nat.le_of_ble_eq_true rfl)) dJ0_checkIndex_df160_5 ⟨Nat.le_of_ble_eq_true rfl, Nat.le_of_ble_eq_true rfl⟩) hS (fun q _ h => hFc q h) hFc (fun r_3 u t H locs ht hvm hw hB hz1 hk1 hS => ?_)
    have hP := gp_joinU (wc := []) hP hD [] rfl hk1 ht hB
    have w_4 := hw
    refine lv_pop hx hb dJ0_checkIndex_df160_8 rfl ?_
    exact W.vret hx hb hr (fun t ht hW => ⟨⟨(), rfl, trivial, gp_end ht hP hD⟩, hS.F ht⟩) hS.2.2 dJ0_checkIndex_df160_9

def v_sJ0_coder : List Cond := .code yJ0_coder_7d493 cJ0_coder_7d493 1 (some .byte) :: (([.fieldLink RJ0 38 "java/lang/String" "COMPACT_STRINGS" "Z", .fieldLink RJ0 15 "java/lang/String" "coder" "B"] : List Cond))
set_option maxHeartbeats 4000000 in
set_option maxRecDepth 100000 in
theorem sJ0_coder (l : Launch) (D : va_G) (cy : Nat → ClassId) (sz : Nat) (xa : Nat → Nat) (sk : Nat → Nat) (sv : Nat → Nat) (ks : Nat) (q0 : ks < 12) : Met l yJ0_coder_7d493 v_sJ0_coder ({ frames := 0, cells := 0, slots := 0, locals := 0 } : Room) (va_Pc [.ref (sk ks)] (gp_BS D cy sz [] sk sv)) (va_Qi (fun (r : Int32) (u : Unit) => (r = 0)) (fun u => gp_E D (va_A [] sz) []) (va_A [] sz)) 0 0 (va_A [] sz) := by
  refine gp_metS (Qc := fun A => va_Qi (fun (r : Int32) (u : Unit) => (r = 0)) (fun u => gp_E D A []) A) (cc := cJ0_coder_7d493) (maxL := 1) (ret := (some .byte)) (by decide +kernel) rfl (Nat.le_of_ble_eq_true rfl) ?_
  intro p e s m below meth c A ls H hx hb hml hr hlocks hts hown hin hK hN hZ hS hP hD hA hl
  have hown : s.vm.findClass RJ0 = some m.cls := hown
  have hl : lv_has ls 1 [(0, .ref (sk ks))] := hl
  refine va_gets (C := RJ0) (n := "COMPACT_STRINGS") (d := "Z") (v := .int 1) hx hb hZ.2.1 hS hown (hts (.fieldLink RJ0 38 "java/lang/String" "COMPACT_STRINGS" "Z") (List.mem_of_getElem? (i := 1) rfl)) (fun _ h9 => h9) dJ0_coder_7d493_0 ?_
  refine lv_if_eq (tgt := 13) hx hb dJ0_coder_7d493_3 (by decide) (fun c_1 => absurd c_1 (by decide)) (fun c_1 => ?_)
  refine lv_aload_n hx hb dJ0_coder_7d493_6 rfl (lv_at hl 0 rfl) ?_
  refine vk_getf (o := "java/lang/String") (n := "coder") (d := "B") hx hb (hZ.1.1 ks q0).2.1 hS hown (hts (.fieldLink RJ0 15 "java/lang/String" "coder" "B") (List.mem_of_getElem? (i := 2) rfl)) (fun _ h9 => h9) dJ0_coder_7d493_7 ?_
  refine lv_goto (tgt := 14) hx hb dJ0_coder_7d493_10 (by decide) ?_
  exact W.zret (v := 0) hx hb hr rfl (fun t ht hW => ⟨⟨0, (), rfl, (show (0 : Int32) = 0 by decide), gp_end ht hP hD⟩, hS.F ht⟩) hS.2.2 dJ0_coder_7d493_14

def v_sJ0_isLatin1 : List Cond := .code yJ0_isLatin1_aae02 cJ0_isLatin1_aae02 1 (some .boolean) :: (([.fieldLink RJ0 38 "java/lang/String" "COMPACT_STRINGS" "Z", .fieldLink RJ0 15 "java/lang/String" "coder" "B"] : List Cond))
set_option maxHeartbeats 4000000 in
set_option maxRecDepth 100000 in
theorem sJ0_isLatin1 (l : Launch) (D : va_G) (cy : Nat → ClassId) (sz : Nat) (xa : Nat → Nat) (sk : Nat → Nat) (sv : Nat → Nat) (ks : Nat) (q0 : ks < 12) : Met l yJ0_isLatin1_aae02 v_sJ0_isLatin1 ({ frames := 0, cells := 0, slots := 0, locals := 0 } : Room) (va_Pc [.ref (sk ks)] (gp_BS D cy sz [] sk sv)) (va_Qi (fun (r : Int32) (u : Unit) => (r = 0 ∨ r = 1) ∧ (r = 1)) (fun u => gp_E D (va_A [] sz) []) (va_A [] sz)) 0 0 (va_A [] sz) := by
  refine gp_metS (Qc := fun A => va_Qi (fun (r : Int32) (u : Unit) => (r = 0 ∨ r = 1) ∧ (r = 1)) (fun u => gp_E D A []) A) (cc := cJ0_isLatin1_aae02) (maxL := 1) (ret := (some .boolean)) (by decide +kernel) rfl (Nat.le_of_ble_eq_true rfl) ?_
  intro p e s m below meth c A ls H hx hb hml hr hlocks hts hown hin hK hN hZ hS hP hD hA hl
  have hown : s.vm.findClass RJ0 = some m.cls := hown
  have hl : lv_has ls 1 [(0, .ref (sk ks))] := hl
  refine va_gets (C := RJ0) (n := "COMPACT_STRINGS") (d := "Z") (v := .int 1) hx hb hZ.2.1 hS hown (hts (.fieldLink RJ0 38 "java/lang/String" "COMPACT_STRINGS" "Z") (List.mem_of_getElem? (i := 1) rfl)) (fun _ h9 => h9) dJ0_isLatin1_aae02_0 ?_
  refine lv_if_eq (tgt := 17) hx hb dJ0_isLatin1_aae02_3 (by decide) (fun c_1 => absurd c_1 (by decide)) (fun c_1 => ?_)
  refine lv_aload_n hx hb dJ0_isLatin1_aae02_6 rfl (lv_at hl 0 rfl) ?_
  refine vk_getf (o := "java/lang/String") (n := "coder") (d := "B") hx hb (hZ.1.1 ks q0).2.1 hS hown (hts (.fieldLink RJ0 15 "java/lang/String" "coder" "B") (List.mem_of_getElem? (i := 2) rfl)) (fun _ h9 => h9) dJ0_isLatin1_aae02_7 ?_
  refine lv_if_ne (tgt := 17) hx hb dJ0_isLatin1_aae02_10 (by decide) (fun c_2 => absurd (by decide) c_2) (fun c_2 => ?_)
  refine lv_iconst (v := 1) hx hb dJ0_isLatin1_aae02_13 (by decide) ?_
  refine lv_goto (tgt := 18) hx hb dJ0_isLatin1_aae02_14 (by decide) ?_
  exact W.zret (v := 1) hx hb hr narrow_b1 (fun t ht hW => ⟨⟨1, (), rfl, ⟨(show (1 : Int32) = 0 ∨ (1 : Int32) = 1 by decide), (show (1 : Int32) = 1 by decide)⟩, gp_end ht hP hD⟩, hS.F ht⟩) hS.2.2 dJ0_isLatin1_aae02_18

theorem lf_sJ0_length_1 (ks : Nat) (q0 : ks < 12) : (gp_ln ks) = gp_ln ks := by
  first | grind | (simp only [sp_in, sp_pl, sp_far, sp_two] at *; grind)
def v_sJ0_length : List Cond := .code yJ0_length_8abf5 cJ0_length_8abf5 1 (some .int) :: (([.fieldLink RJ0 9 "java/lang/String" "value" "[B", .code yJ0_coder_7d493 cJ0_coder_7d493 1 (some .byte), .fieldLink RJ0 38 "java/lang/String" "COMPACT_STRINGS" "Z", .fieldLink RJ0 15 "java/lang/String" "coder" "B", .methodLink RJ0 335 yJ0_coder_7d493, .instanceMethod yJ0_coder_7d493, .selects RJ0 yJ0_coder_7d493 yJ0_coder_7d493, .initialized RJ0] : List Cond))
set_option maxRecDepth 20000 in
theorem gg_sJ0_length_sJ0_coder : GoodIn v_sJ0_length v_sJ0_coder := goodIn_r (.code yJ0_coder_7d493 cJ0_coder_7d493 1 (some .byte) :: [.fieldLink RJ0 38 "java/lang/String" "COMPACT_STRINGS" "Z", .fieldLink RJ0 15 "java/lang/String" "coder" "B"]) [2, 3, 4] (by first | rfl | decide +kernel) (by decide +kernel)
set_option maxRecDepth 20000 in
theorem g_sJ0_length_sJ0_coder_0 : GoodIn v_sJ0_length (wsV RJ0 335 RJ0 yJ0_coder_7d493 v_sJ0_coder) := goodIn_app (goodIn_r [.methodLink RJ0 335 yJ0_coder_7d493, .instanceMethod yJ0_coder_7d493, .selects RJ0 yJ0_coder_7d493 yJ0_coder_7d493, .initialized RJ0] [5, 6, 7, 8] rfl (by decide +kernel)) gg_sJ0_length_sJ0_coder
set_option maxHeartbeats 4000000 in
set_option maxRecDepth 100000 in
theorem sJ0_length (l : Launch) (D : va_G) (cy : Nat → ClassId) (sz : Nat) (xa : Nat → Nat) (sk : Nat → Nat) (sv : Nat → Nat) (ks : Nat) (q0 : ks < 12) : Met l yJ0_length_8abf5 v_sJ0_length ({ frames := 1, cells := 0, slots := 0, locals := 20 } : Room) (va_Pc [.ref (sk ks)] (gp_BS D cy sz [] sk sv)) (va_Qi (fun (r : Int32) (u : Unit) => (r = gp_ln ks) ∧ (sp_in r 0 6)) (fun u => gp_E D (va_A [] sz) []) (va_A [] sz)) 0 0 (va_A [] sz) := by
  refine gp_metS (Qc := fun A => va_Qi (fun (r : Int32) (u : Unit) => (r = gp_ln ks) ∧ (sp_in r 0 6)) (fun u => gp_E D A []) A) (cc := cJ0_length_8abf5) (maxL := 1) (ret := (some .int)) (by decide +kernel) rfl (Nat.le_of_ble_eq_true rfl) ?_
  intro p e s m below meth c A ls H hx hb hml hr hlocks hts hown hin hK hN hZ hS hP hD hA hl
  have hown : s.vm.findClass RJ0 = some m.cls := hown
  have hl : lv_has ls 1 [(0, .ref (sk ks))] := hl
  refine lv_aload_n hx hb dJ0_length_8abf5_0 rfl (lv_at hl 0 rfl) ?_
  refine vk_getf (o := "java/lang/String") (n := "value") (d := "[B") hx hb (hZ.1.1 ks q0).2.2.1 hS hown (hts (.fieldLink RJ0 9 "java/lang/String" "value" "[B") (List.mem_of_getElem? (i := 1) rfl)) (fun _ h9 => h9) dJ0_length_8abf5_1 ?_
  refine va_tlen (v := gp_ln ks) hx hb (hZ.1.1 ks q0).2.2.2 hS rfl dJ0_length_8abf5_4 ?_
  refine lv_aload_n hx hb dJ0_length_8abf5_5 rfl (lv_at hl 0 rfl) ?_
  have hPc := hP.sub (ws' := []) [] rfl
  have hDc := hD.sub (ws' := []) [] (by decide) rfl
  have hFc := va_free (wc := []) hD hS hA [] rfl
  refine va_calli (va_runV (As := []) (rest := [.int (gp_ln ks)]) ⟨hx, hb, hml, hown, hts⟩ (sJ0_coder l D cy H.size xa sk sv ks q0) (cwV 0 hts g_sJ0_length_sJ0_coder_0 rfl rfl rfl (by decide +kernel) ⟨Nat.le_of_ble_eq_true rfl, Nat.le_of_ble_eq_true rfl⟩) (gp_preVJ q0 hZ hS hFc hPc hDc hK hN) rfl rfl hl.1 rfl (lv_room (Nat.le_of_ble_eq_true rfl)) dJ0_length_8abf5_6 ⟨Nat.le_of_ble_eq_true rfl, Nat.le_of_ble_eq_true rfl⟩) hS (fun q _ h => hFc q h) hFc (fun r_1 u t H locs ht hvm hw hB hz1 hk1 hS => ?_)
  have hP := gp_joinU (wc := []) hP hD [] rfl hk1 ht hB
  have w_2 := hw
  obtain rfl := w_2
  refine lv_ishr hx hb dJ0_length_8abf5_9 ?_
  refine gp_ni (gp_ln ks) (gp_shr0 _) ?_
  exact W.iret (v := (gp_ln ks)) hx hb hr (fun t ht hW => ⟨⟨(gp_ln ks), (), rfl, ⟨(lf_sJ0_length_1 ks q0), (gp_ln_in ks)⟩, gp_end ht hP hD⟩, hS.F ht⟩) hS.2.2 dJ0_length_8abf5_10

theorem lf_sJ1_charAt_1 (ix : Int32) (ks : Nat) (q0 : ks < 12) (q1 : 0 ≤ ix) (q2 : ix < gp_ln ks) : ix < (gp_ln ks) := by
  first | grind | (simp only [sp_in, sp_pl, sp_far, sp_two] at *; grind)
def v_sJ1_charAt : List Cond := .code yJ1_charAt_3b067 cJ1_charAt_3b067 2 (some .char) :: (([.code yJ0_checkIndex_df160 cJ0_checkIndex_df160 2 none, .fieldLink RJ0 1053 "jdk/internal/util/Preconditions" "SIOOBE_FORMATTER" "Ljava/util/function/BiFunction;", .code yJ3_checkIndex_8e157 cJ3_checkIndex_8e157 3 (some .int), .methodLink RJ0 1059 yJ3_checkIndex_8e157, .static yJ3_checkIndex_8e157, .initialized RJ3, .methodLink RJ1 9 yJ0_checkIndex_df160, .static yJ0_checkIndex_df160, .initialized RJ0] : List Cond))
set_option maxRecDepth 20000 in
theorem gg_sJ1_charAt_sJ0_checkIndex : GoodIn v_sJ1_charAt v_sJ0_checkIndex := goodIn_r (.code yJ0_checkIndex_df160 cJ0_checkIndex_df160 2 none :: [.fieldLink RJ0 1053 "jdk/internal/util/Preconditions" "SIOOBE_FORMATTER" "Ljava/util/function/BiFunction;", .code yJ3_checkIndex_8e157 cJ3_checkIndex_8e157 3 (some .int), .methodLink RJ0 1059 yJ3_checkIndex_8e157, .static yJ3_checkIndex_8e157, .initialized RJ3]) [1, 2, 3, 4, 5, 6] (by first | rfl | decide +kernel) (by decide +kernel)
set_option maxRecDepth 20000 in
theorem g_sJ1_charAt_sJ0_checkIndex_0 : GoodIn v_sJ1_charAt (va_wsS RJ1 9 yJ0_checkIndex_df160 v_sJ0_checkIndex) := goodIn_app (goodIn_r [.methodLink RJ1 9 yJ0_checkIndex_df160, .static yJ0_checkIndex_df160, .initialized RJ0] [7, 8, 9] rfl (by decide +kernel)) gg_sJ1_charAt_sJ0_checkIndex
set_option maxHeartbeats 4000000 in
set_option maxRecDepth 100000 in
theorem sJ1_charAt (l : Launch) (D : va_G) (cy : Nat → ClassId) (sz : Nat) (xa : Nat → Nat) (sk : Nat → Nat) (sv : Nat → Nat) (ix : Int32) (ks : Nat) (q0 : ks < 12) (q1 : 0 ≤ ix) (q2 : ix < gp_ln ks) : Met l yJ1_charAt_3b067 v_sJ1_charAt ({ frames := 2, cells := 0, slots := 0, locals := 43 } : Room) (va_Pc [.ref (sv ks), .int ix] (gp_BS D cy sz [] sk sv)) (va_Qi (fun (r : Int32) (u : Unit) => (narrow .char (.int r) = .int r)) (fun u => gp_E D (va_A [] sz) []) (va_A [] sz)) 0 0 (va_A [] sz) := by
  refine gp_metS (Qc := fun A => va_Qi (fun (r : Int32) (u : Unit) => (narrow .char (.int r) = .int r)) (fun u => gp_E D A []) A) (cc := cJ1_charAt_3b067) (maxL := 2) (ret := (some .char)) (by decide +kernel) rfl (Nat.le_of_ble_eq_true rfl) ?_
  intro p e s m below meth c A ls H hx hb hml hr hlocks hts hown hin hK hN hZ hS hP hD hA hl
  have hown : s.vm.findClass RJ1 = some m.cls := hown
  have hl : lv_has ls 2 [(0, .ref (sv ks)), (1, .int ix)] := hl
  refine lv_iload_n hx hb dJ1_charAt_3b067_0 rfl (lv_at hl 1 rfl) ?_
  refine lv_aload_n hx hb dJ1_charAt_3b067_1 rfl (lv_at hl 0 rfl) ?_
  refine va_tlen (v := gp_ln ks) hx hb (hZ.1.1 ks q0).2.2.2 hS rfl dJ1_charAt_3b067_2 ?_
  have hPc := hP.sub (ws' := []) [] rfl
  have hDc := hD.sub (ws' := []) [] (by decide) rfl
  have hFc := va_free (wc := []) hD hS hA [] rfl
  refine va_callv (va_runS (As := [.int ix, .int (gp_ln ks)]) (rest := []) ⟨hx, hb, hml, hown, hts⟩ (sJ0_checkIndex l D cy H.size xa sk sv ix (gp_ln ks) q1 (lf_sJ1_charAt_1 ix ks q0 q1 q2)) (va_cwS 2 hts g_sJ1_charAt_sJ0_checkIndex_0 rfl rfl rfl (by decide +kernel) ⟨Nat.le_of_ble_eq_true rfl, Nat.le_of_ble_eq_true rfl⟩) (gp_preSS hZ hS hFc hPc hDc hK hN) rfl rfl hl.1 rfl (lv_room (Nat.le_of_ble_eq_true rfl)) dJ1_charAt_3b067_3 ⟨Nat.le_of_ble_eq_true rfl, Nat.le_of_ble_eq_true rfl⟩) hS (fun q _ h => hFc q h) hFc (fun u t H locs ht hvm hw hB hz1 hk1 hS => ?_)
  have hP := gp_joinU (wc := []) hP hD [] rfl hk1 ht hB
  refine lv_aload_n hx hb dJ1_charAt_3b067_6 rfl (lv_at hl 0 rfl) ?_
  refine lv_iload_n hx hb dJ1_charAt_3b067_7 rfl (lv_at hl 1 rfl) ?_
  refine va_tb hx hb (hZ.1.1 ks q0).2.2.2 hS (gp_lnin (k := ks) q1 q2) rfl dJ1_charAt_3b067_8 ?_
  refine gp_fi (fun y_1 => ?_)
  refine lv_sipush (v := 255) hx hb dJ1_charAt_3b067_9 (by decide) ?_
  refine lv_iand hx hb dJ1_charAt_3b067_12 ?_
  refine lv_i2c (v := ((y_1 &&& 255).toUInt32 % 65536).toInt32) hx hb dJ1_charAt_3b067_13 rfl ?_
  refine gp_fiP (fun z => narrow .char (.int z) = .int z) gp_nC (fun y_2 g_3 => ?_)
  exact W.zret (v := y_2) hx hb hr g_3 (fun t ht hW => ⟨⟨y_2, (), rfl, g_3, gp_end ht hP hD⟩, hS.F ht⟩) hS.2.2 dJ1_charAt_3b067_14

def v_sJ0_charAt : List Cond := .code yJ0_charAt_5068e cJ0_charAt_5068e 2 (some .char) :: (([.code yJ0_isLatin1_aae02 cJ0_isLatin1_aae02 1 (some .boolean), .fieldLink RJ0 38 "java/lang/String" "COMPACT_STRINGS" "Z", .fieldLink RJ0 15 "java/lang/String" "coder" "B", .methodLink RJ0 492 yJ0_isLatin1_aae02, .instanceMethod yJ0_isLatin1_aae02, .selects RJ0 yJ0_isLatin1_aae02 yJ0_isLatin1_aae02, .initialized RJ0, .fieldLink RJ0 9 "java/lang/String" "value" "[B", .code yJ1_charAt_3b067 cJ1_charAt_3b067 2 (some .char), .code yJ0_checkIndex_df160 cJ0_checkIndex_df160 2 none, .fieldLink RJ0 1053 "jdk/internal/util/Preconditions" "SIOOBE_FORMATTER" "Ljava/util/function/BiFunction;", .code yJ3_checkIndex_8e157 cJ3_checkIndex_8e157 3 (some .int), .methodLink RJ0 1059 yJ3_checkIndex_8e157, .static yJ3_checkIndex_8e157, .initialized RJ3, .methodLink RJ1 9 yJ0_checkIndex_df160, .static yJ0_checkIndex_df160, .methodLink RJ0 495 yJ1_charAt_3b067, .static yJ1_charAt_3b067, .initialized RJ1] : List Cond))
set_option maxRecDepth 20000 in
theorem gg_sJ0_charAt_sJ0_isLatin1 : GoodIn v_sJ0_charAt v_sJ0_isLatin1 := goodIn_r (.code yJ0_isLatin1_aae02 cJ0_isLatin1_aae02 1 (some .boolean) :: [.fieldLink RJ0 38 "java/lang/String" "COMPACT_STRINGS" "Z", .fieldLink RJ0 15 "java/lang/String" "coder" "B"]) [1, 2, 3] (by first | rfl | decide +kernel) (by decide +kernel)
set_option maxRecDepth 20000 in
theorem g_sJ0_charAt_sJ0_isLatin1_0 : GoodIn v_sJ0_charAt (wsV RJ0 492 RJ0 yJ0_isLatin1_aae02 v_sJ0_isLatin1) := goodIn_app (goodIn_r [.methodLink RJ0 492 yJ0_isLatin1_aae02, .instanceMethod yJ0_isLatin1_aae02, .selects RJ0 yJ0_isLatin1_aae02 yJ0_isLatin1_aae02, .initialized RJ0] [4, 5, 6, 7] rfl (by decide +kernel)) gg_sJ0_charAt_sJ0_isLatin1
set_option maxRecDepth 20000 in
theorem gg_sJ0_charAt_sJ1_charAt : GoodIn v_sJ0_charAt v_sJ1_charAt := goodIn_r (.code yJ1_charAt_3b067 cJ1_charAt_3b067 2 (some .char) :: [.code yJ0_checkIndex_df160 cJ0_checkIndex_df160 2 none, .fieldLink RJ0 1053 "jdk/internal/util/Preconditions" "SIOOBE_FORMATTER" "Ljava/util/function/BiFunction;", .code yJ3_checkIndex_8e157 cJ3_checkIndex_8e157 3 (some .int), .methodLink RJ0 1059 yJ3_checkIndex_8e157, .static yJ3_checkIndex_8e157, .initialized RJ3, .methodLink RJ1 9 yJ0_checkIndex_df160, .static yJ0_checkIndex_df160, .initialized RJ0]) [9, 10, 11, 12, 13, 14, 15, 16, 17, 7] (by first | rfl | decide +kernel) (by decide +kernel)
set_option maxRecDepth 20000 in
theorem g_sJ0_charAt_sJ1_charAt_1 : GoodIn v_sJ0_charAt (va_wsS RJ0 495 yJ1_charAt_3b067 v_sJ1_charAt) := goodIn_app (goodIn_r [.methodLink RJ0 495 yJ1_charAt_3b067, .static yJ1_charAt_3b067, .initialized RJ1] [18, 19, 20] rfl (by decide +kernel)) gg_sJ0_charAt_sJ1_charAt
set_option maxHeartbeats 4000000 in
set_option maxRecDepth 100000 in
theorem sJ0_charAt (l : Launch) (D : va_G) (cy : Nat → ClassId) (sz : Nat) (xa : Nat → Nat) (sk : Nat → Nat) (sv : Nat → Nat) (ix : Int32) (ks : Nat) (q0 : ks < 12) (q1 : 0 ≤ ix) (q2 : ix < gp_ln ks) : Met l yJ0_charAt_5068e v_sJ0_charAt ({ frames := 3, cells := 0, slots := 0, locals := 64 } : Room) (va_Pc [.ref (sk ks), .int ix] (gp_BS D cy sz [] sk sv)) (va_Qi (fun (r : Int32) (u : Unit) => True) (fun u => gp_E D (va_A [] sz) []) (va_A [] sz)) 0 0 (va_A [] sz) := by
  refine gp_metS (Qc := fun A => va_Qi (fun (r : Int32) (u : Unit) => True) (fun u => gp_E D A []) A) (cc := cJ0_charAt_5068e) (maxL := 2) (ret := (some .char)) (by decide +kernel) rfl (Nat.le_of_ble_eq_true rfl) ?_
  intro p e s m below meth c A ls H hx hb hml hr hlocks hts hown hin hK hN hZ hS hP hD hA hl
  have hown : s.vm.findClass RJ0 = some m.cls := hown
  have hl : lv_has ls 2 [(0, .ref (sk ks)), (1, .int ix)] := hl
  refine lv_aload_n hx hb dJ0_charAt_5068e_0 rfl (lv_at hl 0 rfl) ?_
  have hPc := hP.sub (ws' := []) [] rfl
  have hDc := hD.sub (ws' := []) [] (by decide) rfl
  have hFc := va_free (wc := []) hD hS hA [] rfl
  refine va_calli (va_runV (As := []) (rest := []) ⟨hx, hb, hml, hown, hts⟩ (sJ0_isLatin1 l D cy H.size xa sk sv ks q0) (cwV 0 hts g_sJ0_charAt_sJ0_isLatin1_0 rfl rfl rfl (by decide +kernel) ⟨Nat.le_of_ble_eq_true rfl, Nat.le_of_ble_eq_true rfl⟩) (gp_preVJ q0 hZ hS hFc hPc hDc hK hN) rfl rfl hl.1 rfl (lv_room (Nat.le_of_ble_eq_true rfl)) dJ0_charAt_5068e_1 ⟨Nat.le_of_ble_eq_true rfl, Nat.le_of_ble_eq_true rfl⟩) hS (fun q _ h => hFc q h) hFc (fun r_1 u t H locs ht hvm hw hB hz1 hk1 hS => ?_)
  have hP := gp_joinU (wc := []) hP hD [] rfl hk1 ht hB
  obtain ⟨w_2, w_3⟩ := hw
  obtain rfl := w_3
  refine lv_if_eq (tgt := 16) hx hb dJ0_charAt_5068e_4 (by decide) (fun c_4 => absurd c_4 (by decide)) (fun c_4 => ?_)
  refine lv_aload_n hx hb dJ0_charAt_5068e_7 rfl (lv_at hl 0 rfl) ?_
  refine vk_getf (o := "java/lang/String") (n := "value") (d := "[B") hx hb (hZ.1.1 ks q0).2.2.1 hS hown (hts (.fieldLink RJ0 9 "java/lang/String" "value" "[B") (List.mem_of_getElem? (i := 8) rfl)) (fun _ h9 => h9) dJ0_charAt_5068e_8 ?_
  refine lv_iload_n hx hb dJ0_charAt_5068e_11 rfl (lv_at hl 1 rfl) ?_
  have hPc := hP.sub (ws' := []) [] rfl
  have hDc := hD.sub (ws' := []) [] (by decide) rfl
  have hFc := va_free (wc := []) hD hS hA [] rfl
  refine va_calli (va_runS (As := [.ref (sv ks), .int ix]) (rest := []) ⟨hx, hb, hml, hown, hts⟩ (sJ1_charAt l D cy H.size xa sk sv ix ks q0 q1 q2) (va_cwS 2 hts g_sJ0_charAt_sJ1_charAt_1 rfl rfl rfl (by decide +kernel) ⟨Nat.le_of_ble_eq_true rfl, Nat.le_of_ble_eq_true rfl⟩) (gp_preSS hZ hS hFc hPc hDc hK hN) rfl rfl hl.1 rfl (lv_room (Nat.le_of_ble_eq_true rfl)) dJ0_charAt_5068e_12 ⟨Nat.le_of_ble_eq_true rfl, Nat.le_of_ble_eq_true rfl⟩) hS (fun q _ h => hFc q h) hFc (fun r_5 u t H locs ht hvm hw hB hz1 hk1 hS => ?_)
  have hP := gp_joinU (wc := []) hP hD [] rfl hk1 ht hB
  have w_6 := hw
  exact W.zret (v := r_5) hx hb hr w_6 (fun t ht hW => ⟨⟨r_5, (), rfl, trivial, gp_end ht hP hD⟩, hS.F ht⟩) hS.2.2 dJ0_charAt_5068e_15

theorem lf_sX9_isWord_1 (tape_wordFrom : Int32) (ks : Nat) (r_2 : Int32) (ii : Int32) (r_6 : Int32) (f_tape_wordFrom : sp_in tape_wordFrom 0 600) (q0 : ks < 12) (w_3 : r_2 = gp_ln ks) (h1 : sp_in ii 0 6) (w_7 : r_6 = gp_ln ks) (w_8 : sp_in r_6 0 6) (c_9 : ¬ r_6 ≤ ii) (c_10 : ¬ 600 ≤ (tape_wordFrom + ii)) : sp_in (tape_wordFrom + ii) 0 599 := by
  first | grind | (simp only [sp_in, sp_pl, sp_far, sp_two] at *; grind)
theorem lf_sX9_isWord_2 (tape_wordFrom : Int32) (ks : Nat) (r_2 : Int32) (ii : Int32) (r_6 : Int32) (f_tape_wordFrom : sp_in tape_wordFrom 0 600) (q0 : ks < 12) (w_3 : r_2 = gp_ln ks) (h1 : sp_in ii 0 6) (w_7 : r_6 = gp_ln ks) (w_8 : sp_in r_6 0 6) (c_9 : ¬ r_6 ≤ ii) (c_10 : ¬ 600 ≤ (tape_wordFrom + ii)) : 0 ≤ ii := by
  first | grind | (simp only [sp_in, sp_pl, sp_far, sp_two] at *; grind)
theorem lf_sX9_isWord_3 (tape_wordFrom : Int32) (ks : Nat) (y_1 : Int32) (r_2 : Int32) (ii : Int32) (r_6 : Int32) (f_tape_wordFrom : sp_in tape_wordFrom 0 600) (q0 : ks < 12) (w_3 : r_2 = gp_ln ks) (w_4 : sp_in r_2 0 6) (c_5 : y_1 = r_2) (h1 : sp_in ii 0 6) (w_7 : r_6 = gp_ln ks) (w_8 : sp_in r_6 0 6) (c_9 : ¬ r_6 ≤ ii) (c_10 : ¬ 600 ≤ (tape_wordFrom + ii)) : ii < gp_ln ks := by
  first | grind | (simp only [sp_in, sp_pl, sp_far, sp_two] at *; grind)
theorem lf_sX9_isWord_4 (tape_wordFrom : Int32) (ks : Nat) (r_2 : Int32) (ii : Int32) (r_6 : Int32) (f_tape_wordFrom : sp_in tape_wordFrom 0 600) (q0 : ks < 12) (w_3 : r_2 = gp_ln ks) (h1 : sp_in ii 0 6) (w_7 : r_6 = gp_ln ks) (w_8 : sp_in r_6 0 6) (c_9 : ¬ r_6 ≤ ii) (c_10 : ¬ 600 ≤ (tape_wordFrom + ii)) : sp_in (ii + 1) 0 6 := by
  first | grind | (simp only [sp_in, sp_pl, sp_far, sp_two] at *; grind)
theorem lf_sX9_isWord_5 (tape_wordFrom : Int32) (ks : Nat) (y_1 : Int32) (r_2 : Int32) (ii : Int32) (r_6 : Int32) (f_tape_wordFrom : sp_in tape_wordFrom 0 600) (q0 : ks < 12) (w_3 : r_2 = gp_ln ks) (w_4 : sp_in r_2 0 6) (c_5 : y_1 = r_2) (h1 : sp_in ii 0 6) (w_7 : r_6 = gp_ln ks) (w_8 : sp_in r_6 0 6) (c_9 : ¬ r_6 ≤ ii) (c_10 : ¬ 600 ≤ (tape_wordFrom + ii)) : ii < gp_ln ks := by
  first | grind | (simp only [sp_in, sp_pl, sp_far, sp_two] at *; grind)
def v_sX9_isWord : List Cond := .code yX9_isWord cX9_isWord 3 (some .boolean) :: (([.fieldLink RX9 46 "GhostPane$Tape" "wordTo" "I", .fieldLink RX9 39 "GhostPane$Tape" "wordFrom" "I", .code yJ0_length_8abf5 cJ0_length_8abf5 1 (some .int), .fieldLink RJ0 9 "java/lang/String" "value" "[B", .code yJ0_coder_7d493 cJ0_coder_7d493 1 (some .byte), .fieldLink RJ0 38 "java/lang/String" "COMPACT_STRINGS" "Z", .fieldLink RJ0 15 "java/lang/String" "coder" "B", .methodLink RJ0 335 yJ0_coder_7d493, .instanceMethod yJ0_coder_7d493, .selects RJ0 yJ0_coder_7d493 yJ0_coder_7d493, .initialized RJ0, .methodLink RX9 49 yJ0_length_8abf5, .instanceMethod yJ0_length_8abf5, .selects RJ0 yJ0_length_8abf5 yJ0_length_8abf5, .fieldLink RX9 18 "GhostPane$Tape" "bytes" "[B", .code yJ0_charAt_5068e cJ0_charAt_5068e 2 (some .char), .code yJ0_isLatin1_aae02 cJ0_isLatin1_aae02 1 (some .boolean), .methodLink RJ0 492 yJ0_isLatin1_aae02, .instanceMethod yJ0_isLatin1_aae02, .selects RJ0 yJ0_isLatin1_aae02 yJ0_isLatin1_aae02, .code yJ1_charAt_3b067 cJ1_charAt_3b067 2 (some .char), .code yJ0_checkIndex_df160 cJ0_checkIndex_df160 2 none, .fieldLink RJ0 1053 "jdk/internal/util/Preconditions" "SIOOBE_FORMATTER" "Ljava/util/function/BiFunction;", .code yJ3_checkIndex_8e157 cJ3_checkIndex_8e157 3 (some .int), .methodLink RJ0 1059 yJ3_checkIndex_8e157, .static yJ3_checkIndex_8e157, .initialized RJ3, .methodLink RJ1 9 yJ0_checkIndex_df160, .static yJ0_checkIndex_df160, .methodLink RJ0 495 yJ1_charAt_3b067, .static yJ1_charAt_3b067, .initialized RJ1, .methodLink RX9 54 yJ0_charAt_5068e, .instanceMethod yJ0_charAt_5068e, .selects RJ0 yJ0_charAt_5068e yJ0_charAt_5068e] : List Cond) ++ wsX90)
set_option maxRecDepth 20000 in
theorem gg_sX9_isWord_sJ0_length : GoodIn v_sX9_isWord v_sJ0_length := goodIn_r (.code yJ0_length_8abf5 cJ0_length_8abf5 1 (some .int) :: [.fieldLink RJ0 9 "java/lang/String" "value" "[B", .code yJ0_coder_7d493 cJ0_coder_7d493 1 (some .byte), .fieldLink RJ0 38 "java/lang/String" "COMPACT_STRINGS" "Z", .fieldLink RJ0 15 "java/lang/String" "coder" "B", .methodLink RJ0 335 yJ0_coder_7d493, .instanceMethod yJ0_coder_7d493, .selects RJ0 yJ0_coder_7d493 yJ0_coder_7d493, .initialized RJ0]) [3, 4, 5, 6, 7, 8, 9, 10, 11] (by first | rfl | decide +kernel) (by decide +kernel)
set_option maxRecDepth 20000 in
theorem g_sX9_isWord_sJ0_length_0 : GoodIn v_sX9_isWord (wsV RX9 49 RJ0 yJ0_length_8abf5 v_sJ0_length) := goodIn_app (goodIn_r [.methodLink RX9 49 yJ0_length_8abf5, .instanceMethod yJ0_length_8abf5, .selects RJ0 yJ0_length_8abf5 yJ0_length_8abf5, .initialized RJ0] [12, 13, 14, 11] rfl (by decide +kernel)) gg_sX9_isWord_sJ0_length
set_option maxRecDepth 20000 in
theorem gg_sX9_isWord_sJ0_charAt : GoodIn v_sX9_isWord v_sJ0_charAt := goodIn_r (.code yJ0_charAt_5068e cJ0_charAt_5068e 2 (some .char) :: [.code yJ0_isLatin1_aae02 cJ0_isLatin1_aae02 1 (some .boolean), .fieldLink RJ0 38 "java/lang/String" "COMPACT_STRINGS" "Z", .fieldLink RJ0 15 "java/lang/String" "coder" "B", .methodLink RJ0 492 yJ0_isLatin1_aae02, .instanceMethod yJ0_isLatin1_aae02, .selects RJ0 yJ0_isLatin1_aae02 yJ0_isLatin1_aae02, .initialized RJ0, .fieldLink RJ0 9 "java/lang/String" "value" "[B", .code yJ1_charAt_3b067 cJ1_charAt_3b067 2 (some .char), .code yJ0_checkIndex_df160 cJ0_checkIndex_df160 2 none, .fieldLink RJ0 1053 "jdk/internal/util/Preconditions" "SIOOBE_FORMATTER" "Ljava/util/function/BiFunction;", .code yJ3_checkIndex_8e157 cJ3_checkIndex_8e157 3 (some .int), .methodLink RJ0 1059 yJ3_checkIndex_8e157, .static yJ3_checkIndex_8e157, .initialized RJ3, .methodLink RJ1 9 yJ0_checkIndex_df160, .static yJ0_checkIndex_df160, .methodLink RJ0 495 yJ1_charAt_3b067, .static yJ1_charAt_3b067, .initialized RJ1]) [16, 17, 6, 7, 18, 19, 20, 11, 4, 21, 22, 23, 24, 25, 26, 27, 28, 29, 30, 31, 32] (by first | rfl | decide +kernel) (by decide +kernel)
set_option maxRecDepth 20000 in
theorem g_sX9_isWord_sJ0_charAt_1 : GoodIn v_sX9_isWord (wsV RX9 54 RJ0 yJ0_charAt_5068e v_sJ0_charAt) := goodIn_app (goodIn_r [.methodLink RX9 54 yJ0_charAt_5068e, .instanceMethod yJ0_charAt_5068e, .selects RJ0 yJ0_charAt_5068e yJ0_charAt_5068e, .initialized RJ0] [33, 34, 35, 11] rfl (by decide +kernel)) gg_sX9_isWord_sJ0_charAt
set_option maxHeartbeats 4000000 in
set_option maxRecDepth 100000 in
theorem sX9_isWord (l : Launch) (D : va_G) (cy : Nat → ClassId) (sz : Nat) (xa : Nat → Nat) (sk : Nat → Nat) (sv : Nat → Nat) (tape_length : Int32) (tape_fault : Int32) (tape_faultPlace : Int32) (tape_wordFrom : Int32) (tape_wordTo : Int32) (tape_at : Int32) (bytes : Nat → Int32) (ks : Nat) (f_tape_length : sp_in tape_length 0 600) (f_tape_wordFrom : sp_in tape_wordFrom 0 600) (f_tape_wordTo : sp_in tape_wordTo 0 600) (f_tape_at : sp_in tape_at 0 600) (q0 : ks < 12) : Met l yX9_isWord v_sX9_isWord ({ frames := 4, cells := 0, slots := 0, locals := 85 } : Room) (va_Pc [.ref (xa 1), .ref (sk ks)] (gp_BS D cy sz [(o_tape xa tape_length tape_fault tape_faultPlace tape_wordFrom tape_wordTo tape_at), (aI (xa 2) (cy 0) 600 bytes)] sk sv)) (va_Qi (fun (r : Int32) (u : Unit) => (r = 0 ∨ r = 1)) (fun u => gp_E D (va_A [(o_tape xa tape_length tape_fault tape_faultPlace tape_wordFrom tape_wordTo tape_at), (aI (xa 2) (cy 0) 600 bytes)] sz) [(o_tape xa tape_length tape_fault tape_faultPlace tape_wordFrom tape_wordTo tape_at), (aI (xa 2) (cy 0) 600 bytes)]) (va_A [(o_tape xa tape_length tape_fault tape_faultPlace tape_wordFrom tape_wordTo tape_at), (aI (xa 2) (cy 0) 600 bytes)] sz)) 0 0 (va_A [(o_tape xa tape_length tape_fault tape_faultPlace tape_wordFrom tape_wordTo tape_at), (aI (xa 2) (cy 0) 600 bytes)] sz) := by
  refine gp_metS (Qc := fun A => va_Qi (fun (r : Int32) (u : Unit) => (r = 0 ∨ r = 1)) (fun u => gp_E D A [(o_tape xa tape_length tape_fault tape_faultPlace tape_wordFrom tape_wordTo tape_at), (aI (xa 2) (cy 0) 600 bytes)]) A) (cc := cX9_isWord) (maxL := 3) (ret := (some .boolean)) (plainFor_of_name (by decide)) rfl (Nat.le_of_ble_eq_true rfl) ?_
  intro p e s m below meth c A ls H hx hb hml hr hlocks hts hown hin hK hN hZ hS hP hD hA hl
  have hown : s.vm.findClass RX9 = some m.cls := hown
  have hl : lv_has ls 3 [(0, .ref (xa 1)), (1, .ref (sk ks))] := hl
  have hiX9 : ∀ w ∈ u_ws RX9 TX9 7, w ∈ v_sX9_isWord := fun _ h => List.mem_cons_of_mem _ (List.mem_append_right _ h)
  refine lv_aload_n hx hb dX9_isWord_0 rfl (lv_at hl 0 rfl) ?_
  refine va_get (D := D) (ci := 9) (v := .int tape_wordTo) (C := RX9) (T := TX9) (N := 7) hx hb hts hiX9 hown hK hP 0 rfl rfl 4 (by decide) (hts (.fieldLink RX9 46 "GhostPane$Tape" "wordTo" "I") (List.mem_of_getElem? (i := 1) rfl)) (fun _ h9 => h9) rfl dX9_isWord_1 ?_
  refine lv_aload_n hx hb dX9_isWord_4 rfl (lv_at hl 0 rfl) ?_
  refine va_get (D := D) (ci := 9) (v := .int tape_wordFrom) (C := RX9) (T := TX9) (N := 7) hx hb hts hiX9 hown hK hP 0 rfl rfl 3 (by decide) (hts (.fieldLink RX9 39 "GhostPane$Tape" "wordFrom" "I") (List.mem_of_getElem? (i := 2) rfl)) (fun _ h9 => h9) rfl dX9_isWord_5 ?_
  refine lv_isub hx hb dX9_isWord_8 ?_
  refine gp_fi (fun y_1 => ?_)
  refine lv_aload_n hx hb dX9_isWord_9 rfl (lv_at hl 1 rfl) ?_
  have hPc := hP.sub (ws' := []) [] rfl
  have hDc := hD.sub (ws' := []) [] (by decide) rfl
  have hFc := va_free (wc := []) hD hS hA [] rfl
  refine va_calli (va_runV (As := []) (rest := [.int y_1]) ⟨hx, hb, hml, hown, hts⟩ (sJ0_length l D cy H.size xa sk sv ks q0) (cwV 0 hts g_sX9_isWord_sJ0_length_0 rfl rfl rfl (by decide +kernel) ⟨Nat.le_of_ble_eq_true rfl, Nat.le_of_ble_eq_true rfl⟩) (gp_preVJ q0 hZ hS hFc hPc hDc hK hN) rfl rfl hl.1 rfl (lv_room (Nat.le_of_ble_eq_true rfl)) dX9_isWord_10 ⟨Nat.le_of_ble_eq_true rfl, Nat.le_of_ble_eq_true rfl⟩) hS (fun q _ h => hFc q h) hFc (fun r_2 u t H locs ht hvm hw hB hz1 hk1 hS => ?_)
  have hP := gp_joinU (wc := []) hP hD [] rfl hk1 ht hB
  obtain ⟨w_3, w_4⟩ := hw
  refine lv_icmp_eq (tgt := 18) hx hb dX9_isWord_13 (by decide) (fun c_5 => ?_) (fun c_5 => ?_)
  · refine lv_iconst (v := 0) hx hb dX9_isWord_18 (by decide) ?_
    refine lv_istore_n (lv' := [(2, .int 0), (0, .ref (xa 1)), (1, .ref (sk ks))]) hx hb dX9_isWord_19 rfl hl (by decide) rfl (fun ls hl => ?_)
    have key20 : ∀ (fu : Nat) (ii : Int32) (H : Heap) (locs : List Loc) (ls : Array Slot), (h1 : sp_in ii 0 6) → ((gp_ln ks).toInt - ii.toInt).toNat < fu → va_P D vwCl [(o_tape xa tape_length tape_fault tape_faultPlace tape_wordFrom tape_wordTo tape_at), (aI (xa 2) (cy 0) 600 bytes)] H → va_D A [(o_tape xa tape_length tape_fault tape_faultPlace tape_wordFrom tape_wordTo tape_at), (aI (xa 2) (cy 0) 600 bytes)] → va_S A s.heap H locs → lv_has ls 3 [(2, .int ii), (0, .ref (xa 1)), (1, .ref (sk ks))] → W p l e (headSpec v_sX9_isWord (({ frames := 4, cells := 0, slots := 0, locals := 85 } : Room))).room s m [.ref (xa 1), .ref (sk ks)].toArray below meth c H locs 0 0 (MQ below (va_Qi (fun (r : Int32) (u : Unit) => (r = 0 ∨ r = 1)) (fun u => gp_E D A [(o_tape xa tape_length tape_fault tape_faultPlace tape_wordFrom tape_wordTo tape_at), (aI (xa 2) (cy 0) 600 bytes)]) A) [.ref (xa 1), .ref (sk ks)].toArray s 0 0 A) (F0 m 20 ls []) := by
      intro fu
      induction fu with
      | zero => intro ii H locs ls h1 hfu; exact absurd hfu (Nat.not_lt_zero _)
      | succ fu ih =>
        intro ii H locs ls h1 hfu hP hD hS hl
        refine lv_iload_n hx hb dX9_isWord_20 rfl (lv_at hl 0 rfl) ?_
        refine lv_aload_n hx hb dX9_isWord_21 rfl (lv_at hl 2 rfl) ?_
        have hPc := hP.sub (ws' := []) [] rfl
        have hDc := hD.sub (ws' := []) [] (by decide) rfl
        have hFc := va_free (wc := []) hD hS hA [] rfl
        refine va_calli (va_runV (As := []) (rest := [.int ii]) ⟨hx, hb, hml, hown, hts⟩ (sJ0_length l D cy H.size xa sk sv ks q0) (cwV 0 hts g_sX9_isWord_sJ0_length_0 rfl rfl rfl (by decide +kernel) ⟨Nat.le_of_ble_eq_true rfl, Nat.le_of_ble_eq_true rfl⟩) (gp_preVJ q0 hZ hS hFc hPc hDc hK hN) rfl rfl hl.1 rfl (lv_room (Nat.le_of_ble_eq_true rfl)) dX9_isWord_22 ⟨Nat.le_of_ble_eq_true rfl, Nat.le_of_ble_eq_true rfl⟩) hS (fun q _ h => hFc q h) hFc (fun r_6 u t H locs ht hvm hw hB hz1 hk1 hS => ?_)
        have hP := gp_joinU (wc := []) hP hD [] rfl hk1 ht hB
        obtain ⟨w_7, w_8⟩ := hw
        refine lv_icmp_ge (tgt := 67) hx hb dX9_isWord_25 (by decide) (fun c_9 => ?_) (fun c_9 => ?_)
        · refine lv_iconst (v := 1) hx hb dX9_isWord_67 (by decide) ?_
          exact W.zret (v := 1) hx hb hr narrow_b1 (fun t ht hW => ⟨⟨1, (), rfl, (show (1 : Int32) = 0 ∨ (1 : Int32) = 1 by decide), gp_end ht hP hD⟩, hS.F ht⟩) hS.2.2 dX9_isWord_68
        · refine lv_aload_n hx hb dX9_isWord_28 rfl (lv_at hl 1 rfl) ?_
          refine va_get (D := D) (ci := 9) (v := .int tape_wordFrom) (C := RX9) (T := TX9) (N := 7) hx hb hts hiX9 hown hK hP 0 rfl rfl 3 (by decide) (hts (.fieldLink RX9 39 "GhostPane$Tape" "wordFrom" "I") (List.mem_of_getElem? (i := 2) rfl)) (fun _ h9 => h9) rfl dX9_isWord_29 ?_
          refine lv_iload_n hx hb dX9_isWord_32 rfl (lv_at hl 0 rfl) ?_
          refine lv_iadd hx hb dX9_isWord_33 ?_
          refine lv_sipush (v := 600) hx hb dX9_isWord_34 (by decide) ?_
          refine lv_icmp_ge (tgt := 67) hx hb dX9_isWord_37 (by decide) (fun c_10 => ?_) (fun c_10 => ?_)
          · refine lv_iconst (v := 1) hx hb dX9_isWord_67 (by decide) ?_
            exact W.zret (v := 1) hx hb hr narrow_b1 (fun t ht hW => ⟨⟨1, (), rfl, (show (1 : Int32) = 0 ∨ (1 : Int32) = 1 by decide), gp_end ht hP hD⟩, hS.F ht⟩) hS.2.2 dX9_isWord_68
          · refine lv_aload_n hx hb dX9_isWord_40 rfl (lv_at hl 1 rfl) ?_
            refine va_get (D := D) (ci := 9) (v := .ref (xa 2)) (C := RX9) (T := TX9) (N := 7) hx hb hts hiX9 hown hK hP 0 rfl rfl 6 (by decide) (hts (.fieldLink RX9 18 "GhostPane$Tape" "bytes" "[B") (List.mem_of_getElem? (i := 15) rfl)) (fun _ h9 => h9) rfl dX9_isWord_41 ?_
            refine lv_aload_n hx hb dX9_isWord_44 rfl (lv_at hl 1 rfl) ?_
            refine va_get (D := D) (ci := 9) (v := .int tape_wordFrom) (C := RX9) (T := TX9) (N := 7) hx hb hts hiX9 hown hK hP 0 rfl rfl 3 (by decide) (hts (.fieldLink RX9 39 "GhostPane$Tape" "wordFrom" "I") (List.mem_of_getElem? (i := 2) rfl)) (fun _ h9 => h9) rfl dX9_isWord_45 ?_
            refine lv_iload_n hx hb dX9_isWord_48 rfl (lv_at hl 0 rfl) ?_
            refine lv_iadd hx hb dX9_isWord_49 ?_
            refine va_bald hx hb hK hP 1 0 rfl rfl (gp_in (hi := 599) (lf_sX9_isWord_1 tape_wordFrom ks r_2 ii r_6 f_tape_wordFrom q0 w_3 h1 w_7 w_8 c_9 c_10) (by decide)) dX9_isWord_50 ?_
            refine gp_fi (fun y_11 => ?_)
            refine lv_aload_n hx hb dX9_isWord_51 rfl (lv_at hl 2 rfl) ?_
            refine lv_iload_n hx hb dX9_isWord_52 rfl (lv_at hl 0 rfl) ?_
            have hPc := hP.sub (ws' := []) [] rfl
            have hDc := hD.sub (ws' := []) [] (by decide) rfl
            have hFc := va_free (wc := []) hD hS hA [] rfl
            refine va_calli (va_runV (As := [.int ii]) (rest := [.int y_11]) ⟨hx, hb, hml, hown, hts⟩ (sJ0_charAt l D cy H.size xa sk sv ii ks q0 (lf_sX9_isWord_2 tape_wordFrom ks r_2 ii r_6 f_tape_wordFrom q0 w_3 h1 w_7 w_8 c_9 c_10) (lf_sX9_isWord_3 tape_wordFrom ks y_1 r_2 ii r_6 f_tape_wordFrom q0 w_3 w_4 c_5 h1 w_7 w_8 c_9 c_10)) (cwV 1 hts g_sX9_isWord_sJ0_charAt_1 rfl rfl rfl (by decide +kernel) ⟨Nat.le_of_ble_eq_true rfl, Nat.le_of_ble_eq_true rfl⟩) (gp_preVJ q0 hZ hS hFc hPc hDc hK hN) rfl rfl hl.1 rfl (lv_room (Nat.le_of_ble_eq_true rfl)) dX9_isWord_53 ⟨Nat.le_of_ble_eq_true rfl, Nat.le_of_ble_eq_true rfl⟩) hS (fun q _ h => hFc q h) hFc (fun r_12 u t H locs ht hvm hw hB hz1 hk1 hS => ?_)
            have hP := gp_joinU (wc := []) hP hD [] rfl hk1 ht hB
            refine lv_icmp_eq (tgt := 61) hx hb dX9_isWord_56 (by decide) (fun c_13 => ?_) (fun c_13 => ?_)
            · refine lv_iinc (v := (ii + 1)) (lv' := [(2, .int (ii + 1)), (0, .ref (xa 1)), (1, .ref (sk ks))]) hx hb dX9_isWord_61 hl (k := 0) rfl rfl (by decide) rfl (fun ls hl => ?_)
              refine lv_goto (tgt := 20) hx hb dX9_isWord_64 (by decide) ?_
              exact ih (ii + 1) H locs ls (lf_sX9_isWord_4 tape_wordFrom ks r_2 ii r_6 f_tape_wordFrom q0 w_3 h1 w_7 w_8 c_9 c_10) (Nat.lt_of_lt_of_le (gp_mdec (lf_sX9_isWord_5 tape_wordFrom ks y_1 r_2 ii r_6 f_tape_wordFrom q0 w_3 w_4 c_5 h1 w_7 w_8 c_9 c_10)) (Nat.le_of_lt_succ hfu)) hP hD hS (lv_sub hl [0, 1, 2] rfl)
            · refine lv_iconst (v := 0) hx hb dX9_isWord_59 (by decide) ?_
              exact W.zret (v := 0) hx hb hr narrow_b0 (fun t ht hW => ⟨⟨0, (), rfl, (show (0 : Int32) = 0 ∨ (0 : Int32) = 1 by decide), gp_end ht hP hD⟩, hS.F ht⟩) hS.2.2 dX9_isWord_60
    exact key20 (((gp_ln ks).toInt - (0 : Int32).toInt).toNat + 1) 0 H locs ls (show sp_in 0 0 6 by decide) (Nat.lt_succ_self _) hP hD hS (lv_sub hl [0, 1, 2] rfl)
  · refine lv_iconst (v := 0) hx hb dX9_isWord_16 (by decide) ?_
    exact W.zret (v := 0) hx hb hr narrow_b0 (fun t ht hW => ⟨⟨0, (), rfl, (show (0 : Int32) = 0 ∨ (0 : Int32) = 1 by decide), gp_end ht hP hD⟩, hS.F ht⟩) hS.2.2 dX9_isWord_17

theorem lf_sX9_needWord_1 (tape_at : Int32) (tape_at_3 : Int32) (tape_wordFrom_8 : Int32) (tape_wordTo_9 : Int32) (tape_at_10 : Int32) (f_tape_at : sp_in tape_at 0 600) (w_4 : sp_in tape_at_3 0 600) (w_5 : tape_at ≤ tape_at_3) (w_11 : sp_in tape_wordFrom_8 0 600) (w_12 : sp_in tape_wordTo_9 0 600) (w_13 : sp_in tape_at_10 0 600) (w_14 : tape_at_3 ≤ tape_at_10) (w_15 : tape_wordFrom_8 = tape_at_3) (w_16 : tape_wordTo_9 = tape_at_10) : tape_at ≤ tape_at_10 := by
  first | grind | (simp only [sp_in, sp_pl, sp_far, sp_two] at *; grind)
theorem lf_sX9_needWord_2 (tape_at : Int32) (tape_at_3 : Int32) (tape_wordFrom_8 : Int32) (tape_wordTo_9 : Int32) (tape_at_10 : Int32) (f_tape_at : sp_in tape_at 0 600) (w_4 : sp_in tape_at_3 0 600) (w_5 : tape_at ≤ tape_at_3) (w_11 : sp_in tape_wordFrom_8 0 600) (w_12 : sp_in tape_wordTo_9 0 600) (w_13 : sp_in tape_at_10 0 600) (w_14 : tape_at_3 ≤ tape_at_10) (w_15 : tape_wordFrom_8 = tape_at_3) (w_16 : tape_wordTo_9 = tape_at_10) : tape_at ≤ tape_at_10 := by
  first | grind | (simp only [sp_in, sp_pl, sp_far, sp_two] at *; grind)
theorem lf_sX9_needWord_3 (tape_at : Int32) (tape_at_3 : Int32) (tape_wordFrom_8 : Int32) (tape_wordTo_9 : Int32) (tape_at_10 : Int32) (f_tape_at : sp_in tape_at 0 600) (w_4 : sp_in tape_at_3 0 600) (w_5 : tape_at ≤ tape_at_3) (w_11 : sp_in tape_wordFrom_8 0 600) (w_12 : sp_in tape_wordTo_9 0 600) (w_13 : sp_in tape_at_10 0 600) (w_14 : tape_at_3 ≤ tape_at_10) (w_15 : tape_wordFrom_8 = tape_at_3) (w_16 : tape_wordTo_9 = tape_at_10) : tape_at ≤ tape_at_10 := by
  first | grind | (simp only [sp_in, sp_pl, sp_far, sp_two] at *; grind)
theorem lf_sX9_needWord_4 (tape_fault : Int32) (tape_fault_1 : Int32) (tape_fault_23 : Int32) (w_6 : tape_fault_1 = 0 → tape_fault = 0) (c_7 : tape_fault_1 = 0) (w_25 : ¬ tape_fault_23 = 0) : tape_fault_23 = 0 → tape_fault = 0 := by
  first | grind | (simp only [sp_in, sp_pl, sp_far, sp_two] at *; grind)
def v_sX9_needWord : List Cond := .code yX9_needWord cX9_needWord 3 none :: (([.code yX9_skipGap cX9_skipGap 2 none, .fieldLink RX9 25 "GhostPane$Tape" "at" "I", .code yX9_skipBlanks cX9_skipBlanks 1 none, .fieldLink RX9 22 "GhostPane$Tape" "length" "I", .fieldLink RX9 18 "GhostPane$Tape" "bytes" "[B", .methodLink RX9 28 yX9_skipBlanks, .instanceMethod yX9_skipBlanks, .selects RX9 yX9_skipBlanks yX9_skipBlanks, .initialized RX9, .code yX9_fail cX9_fail 3 none, .fieldLink RX9 9 "GhostPane$Tape" "fault" "I", .fieldLink RX9 15 "GhostPane$Tape" "faultPlace" "I", .methodLink RX9 31 yX9_fail, .instanceMethod yX9_fail, .selects RX9 yX9_fail yX9_fail, .methodLink RX9 58 yX9_skipGap, .instanceMethod yX9_skipGap, .selects RX9 yX9_skipGap yX9_skipGap, .code yX9_readWord cX9_readWord 1 none, .fieldLink RX9 39 "GhostPane$Tape" "wordFrom" "I", .fieldLink RX9 46 "GhostPane$Tape" "wordTo" "I", .code yX9_isLetter cX9_isLetter 2 (some .boolean), .methodLink RX9 42 yX9_isLetter, .instanceMethod yX9_isLetter, .selects RX9 yX9_isLetter yX9_isLetter, .methodLink RX9 61 yX9_readWord, .instanceMethod yX9_readWord, .selects RX9 yX9_readWord yX9_readWord, .code yX9_isWord cX9_isWord 3 (some .boolean), .code yJ0_length_8abf5 cJ0_length_8abf5 1 (some .int), .fieldLink RJ0 9 "java/lang/String" "value" "[B", .code yJ0_coder_7d493 cJ0_coder_7d493 1 (some .byte), .fieldLink RJ0 38 "java/lang/String" "COMPACT_STRINGS" "Z", .fieldLink RJ0 15 "java/lang/String" "coder" "B", .methodLink RJ0 335 yJ0_coder_7d493, .instanceMethod yJ0_coder_7d493, .selects RJ0 yJ0_coder_7d493 yJ0_coder_7d493, .initialized RJ0, .methodLink RX9 49 yJ0_length_8abf5, .instanceMethod yJ0_length_8abf5, .selects RJ0 yJ0_length_8abf5 yJ0_length_8abf5, .code yJ0_charAt_5068e cJ0_charAt_5068e 2 (some .char), .code yJ0_isLatin1_aae02 cJ0_isLatin1_aae02 1 (some .boolean), .methodLink RJ0 492 yJ0_isLatin1_aae02, .instanceMethod yJ0_isLatin1_aae02, .selects RJ0 yJ0_isLatin1_aae02 yJ0_isLatin1_aae02, .code yJ1_charAt_3b067 cJ1_charAt_3b067 2 (some .char), .code yJ0_checkIndex_df160 cJ0_checkIndex_df160 2 none, .fieldLink RJ0 1053 "jdk/internal/util/Preconditions" "SIOOBE_FORMATTER" "Ljava/util/function/BiFunction;", .code yJ3_checkIndex_8e157 cJ3_checkIndex_8e157 3 (some .int), .methodLink RJ0 1059 yJ3_checkIndex_8e157, .static yJ3_checkIndex_8e157, .initialized RJ3, .methodLink RJ1 9 yJ0_checkIndex_df160, .static yJ0_checkIndex_df160, .methodLink RJ0 495 yJ1_charAt_3b067, .static yJ1_charAt_3b067, .initialized RJ1, .methodLink RX9 54 yJ0_charAt_5068e, .instanceMethod yJ0_charAt_5068e, .selects RJ0 yJ0_charAt_5068e yJ0_charAt_5068e, .methodLink RX9 64 yX9_isWord, .instanceMethod yX9_isWord, .selects RX9 yX9_isWord yX9_isWord] : List Cond) ++ wsX90)
set_option maxRecDepth 20000 in
theorem gg_sX9_needWord_sX9_skipGap : GoodIn v_sX9_needWord v_sX9_skipGap := goodIn_ca (goodIn_r (.code yX9_skipGap cX9_skipGap 2 none :: [.fieldLink RX9 25 "GhostPane$Tape" "at" "I", .code yX9_skipBlanks cX9_skipBlanks 1 none, .fieldLink RX9 22 "GhostPane$Tape" "length" "I", .fieldLink RX9 18 "GhostPane$Tape" "bytes" "[B", .methodLink RX9 28 yX9_skipBlanks, .instanceMethod yX9_skipBlanks, .selects RX9 yX9_skipBlanks yX9_skipBlanks, .initialized RX9, .code yX9_fail cX9_fail 3 none, .fieldLink RX9 9 "GhostPane$Tape" "fault" "I", .fieldLink RX9 15 "GhostPane$Tape" "faultPlace" "I", .methodLink RX9 31 yX9_fail, .instanceMethod yX9_fail, .selects RX9 yX9_fail yX9_fail]) [1, 2, 3, 4, 5, 6, 7, 8, 9, 10, 11, 12, 13, 14, 15] (by first | rfl | decide +kernel) (by decide +kernel)) (goodIn_sub (fun _ h => List.mem_cons_of_mem _ (List.mem_append_right _ h)) gwX9)
set_option maxRecDepth 20000 in
theorem g_sX9_needWord_sX9_skipGap_0 : GoodIn v_sX9_needWord (wsV RX9 58 RX9 yX9_skipGap v_sX9_skipGap) := goodIn_app (goodIn_r [.methodLink RX9 58 yX9_skipGap, .instanceMethod yX9_skipGap, .selects RX9 yX9_skipGap yX9_skipGap, .initialized RX9] [16, 17, 18, 9] rfl (by decide +kernel)) gg_sX9_needWord_sX9_skipGap
set_option maxRecDepth 20000 in
theorem gg_sX9_needWord_sX9_readWord : GoodIn v_sX9_needWord v_sX9_readWord := goodIn_ca (goodIn_r (.code yX9_readWord cX9_readWord 1 none :: [.fieldLink RX9 25 "GhostPane$Tape" "at" "I", .fieldLink RX9 39 "GhostPane$Tape" "wordFrom" "I", .fieldLink RX9 22 "GhostPane$Tape" "length" "I", .fieldLink RX9 46 "GhostPane$Tape" "wordTo" "I", .code yX9_isLetter cX9_isLetter 2 (some .boolean), .fieldLink RX9 18 "GhostPane$Tape" "bytes" "[B", .methodLink RX9 42 yX9_isLetter, .instanceMethod yX9_isLetter, .selects RX9 yX9_isLetter yX9_isLetter, .initialized RX9]) [19, 2, 20, 4, 21, 22, 5, 23, 24, 25, 9] (by first | rfl | decide +kernel) (by decide +kernel)) (goodIn_sub (fun _ h => List.mem_cons_of_mem _ (List.mem_append_right _ h)) gwX9)
set_option maxRecDepth 20000 in
theorem g_sX9_needWord_sX9_readWord_1 : GoodIn v_sX9_needWord (wsV RX9 61 RX9 yX9_readWord v_sX9_readWord) := goodIn_app (goodIn_r [.methodLink RX9 61 yX9_readWord, .instanceMethod yX9_readWord, .selects RX9 yX9_readWord yX9_readWord, .initialized RX9] [26, 27, 28, 9] rfl (by decide +kernel)) gg_sX9_needWord_sX9_readWord
set_option maxRecDepth 20000 in
theorem gg_sX9_needWord_sX9_isWord : GoodIn v_sX9_needWord v_sX9_isWord := goodIn_ca (goodIn_r (.code yX9_isWord cX9_isWord 3 (some .boolean) :: [.fieldLink RX9 46 "GhostPane$Tape" "wordTo" "I", .fieldLink RX9 39 "GhostPane$Tape" "wordFrom" "I", .code yJ0_length_8abf5 cJ0_length_8abf5 1 (some .int), .fieldLink RJ0 9 "java/lang/String" "value" "[B", .code yJ0_coder_7d493 cJ0_coder_7d493 1 (some .byte), .fieldLink RJ0 38 "java/lang/String" "COMPACT_STRINGS" "Z", .fieldLink RJ0 15 "java/lang/String" "coder" "B", .methodLink RJ0 335 yJ0_coder_7d493, .instanceMethod yJ0_coder_7d493, .selects RJ0 yJ0_coder_7d493 yJ0_coder_7d493, .initialized RJ0, .methodLink RX9 49 yJ0_length_8abf5, .instanceMethod yJ0_length_8abf5, .selects RJ0 yJ0_length_8abf5 yJ0_length_8abf5, .fieldLink RX9 18 "GhostPane$Tape" "bytes" "[B", .code yJ0_charAt_5068e cJ0_charAt_5068e 2 (some .char), .code yJ0_isLatin1_aae02 cJ0_isLatin1_aae02 1 (some .boolean), .methodLink RJ0 492 yJ0_isLatin1_aae02, .instanceMethod yJ0_isLatin1_aae02, .selects RJ0 yJ0_isLatin1_aae02 yJ0_isLatin1_aae02, .code yJ1_charAt_3b067 cJ1_charAt_3b067 2 (some .char), .code yJ0_checkIndex_df160 cJ0_checkIndex_df160 2 none, .fieldLink RJ0 1053 "jdk/internal/util/Preconditions" "SIOOBE_FORMATTER" "Ljava/util/function/BiFunction;", .code yJ3_checkIndex_8e157 cJ3_checkIndex_8e157 3 (some .int), .methodLink RJ0 1059 yJ3_checkIndex_8e157, .static yJ3_checkIndex_8e157, .initialized RJ3, .methodLink RJ1 9 yJ0_checkIndex_df160, .static yJ0_checkIndex_df160, .methodLink RJ0 495 yJ1_charAt_3b067, .static yJ1_charAt_3b067, .initialized RJ1, .methodLink RX9 54 yJ0_charAt_5068e, .instanceMethod yJ0_charAt_5068e, .selects RJ0 yJ0_charAt_5068e yJ0_charAt_5068e]) [29, 21, 20, 30, 31, 32, 33, 34, 35, 36, 37, 38, 39, 40, 41, 5, 42, 43, 44, 45, 46, 47, 48, 49, 50, 51, 52, 53, 54, 55, 56, 57, 58, 59, 60, 61] (by first | rfl | decide +kernel) (by decide +kernel)) (goodIn_sub (fun _ h => List.mem_cons_of_mem _ (List.mem_append_right _ h)) gwX9)
set_option maxRecDepth 20000 in
theorem g_sX9_needWord_sX9_isWord_2 : GoodIn v_sX9_needWord (wsV RX9 64 RX9 yX9_isWord v_sX9_isWord) := goodIn_app (goodIn_r [.methodLink RX9 64 yX9_isWord, .instanceMethod yX9_isWord, .selects RX9 yX9_isWord yX9_isWord, .initialized RX9] [62, 63, 64, 9] rfl (by decide +kernel)) gg_sX9_needWord_sX9_isWord
set_option maxRecDepth 20000 in
theorem gg_sX9_needWord_sX9_fail : GoodIn v_sX9_needWord v_sX9_fail := goodIn_ca (goodIn_r (.code yX9_fail cX9_fail 3 none :: [.fieldLink RX9 9 "GhostPane$Tape" "fault" "I", .fieldLink RX9 15 "GhostPane$Tape" "faultPlace" "I"]) [10, 11, 12] (by first | rfl | decide +kernel) (by decide +kernel)) (goodIn_sub (fun _ h => List.mem_cons_of_mem _ (List.mem_append_right _ h)) gwX9)
set_option maxRecDepth 20000 in
theorem g_sX9_needWord_sX9_fail_3 : GoodIn v_sX9_needWord (wsV RX9 31 RX9 yX9_fail v_sX9_fail) := goodIn_app (goodIn_r [.methodLink RX9 31 yX9_fail, .instanceMethod yX9_fail, .selects RX9 yX9_fail yX9_fail, .initialized RX9] [13, 14, 15, 9] rfl (by decide +kernel)) gg_sX9_needWord_sX9_fail
set_option maxHeartbeats 4000000 in
set_option maxRecDepth 100000 in
theorem sX9_needWord (l : Launch) (D : va_G) (cy : Nat → ClassId) (sz : Nat) (xa : Nat → Nat) (sk : Nat → Nat) (sv : Nat → Nat) (tape_length : Int32) (tape_fault : Int32) (tape_faultPlace : Int32) (tape_wordFrom : Int32) (tape_wordTo : Int32) (tape_at : Int32) (bytes : Nat → Int32) (ks : Nat) (kt : Nat) (f_tape_length : sp_in tape_length 0 600) (f_tape_wordFrom : sp_in tape_wordFrom 0 600) (f_tape_wordTo : sp_in tape_wordTo 0 600) (f_tape_at : sp_in tape_at 0 600) (q0 : ks < 12) (q1 : kt < 12) : Met l yX9_needWord v_sX9_needWord ({ frames := 5, cells := 0, slots := 0, locals := 107 } : Room) (va_Pc [.ref (xa 1), .ref (sk ks), .ref (sk kt)] (gp_BS D cy sz [(o_tape xa tape_length tape_fault tape_faultPlace tape_wordFrom tape_wordTo tape_at), (aI (xa 2) (cy 0) 600 bytes)] sk sv)) (va_Qv (fun (u : (Int32) × (Int32) × (Int32) × (Int32) × (Int32)) => (sp_in u.2.2.1 0 600) ∧ (sp_in u.2.2.2.1 0 600) ∧ (sp_in u.2.2.2.2 0 600) ∧ (tape_at ≤ u.2.2.2.2) ∧ (u.1 = 0 → tape_fault = 0)) (fun u => gp_E D (va_A [(o_tape xa tape_length tape_fault tape_faultPlace tape_wordFrom tape_wordTo tape_at), (aI (xa 2) (cy 0) 600 bytes)] sz) [(o_tape xa tape_length u.1 u.2.1 u.2.2.1 u.2.2.2.1 u.2.2.2.2), (aI (xa 2) (cy 0) 600 bytes)]) (va_A [(o_tape xa tape_length tape_fault tape_faultPlace tape_wordFrom tape_wordTo tape_at), (aI (xa 2) (cy 0) 600 bytes)] sz)) 0 0 (va_A [(o_tape xa tape_length tape_fault tape_faultPlace tape_wordFrom tape_wordTo tape_at), (aI (xa 2) (cy 0) 600 bytes)] sz) := by
  refine gp_metS (Qc := fun A => va_Qv (fun (u : (Int32) × (Int32) × (Int32) × (Int32) × (Int32)) => (sp_in u.2.2.1 0 600) ∧ (sp_in u.2.2.2.1 0 600) ∧ (sp_in u.2.2.2.2 0 600) ∧ (tape_at ≤ u.2.2.2.2) ∧ (u.1 = 0 → tape_fault = 0)) (fun u => gp_E D A [(o_tape xa tape_length u.1 u.2.1 u.2.2.1 u.2.2.2.1 u.2.2.2.2), (aI (xa 2) (cy 0) 600 bytes)]) A) (cc := cX9_needWord) (maxL := 3) (ret := none) (plainFor_of_name (by decide)) rfl (Nat.le_of_ble_eq_true rfl) ?_
  intro p e s m below meth c A ls H hx hb hml hr hlocks hts hown hin hK hN hZ hS hP hD hA hl
  have hown : s.vm.findClass RX9 = some m.cls := hown
  have hl : lv_has ls 3 [(0, .ref (xa 1)), (1, .ref (sk ks)), (2, .ref (sk kt))] := hl
  have hiX9 : ∀ w ∈ u_ws RX9 TX9 7, w ∈ v_sX9_needWord := fun _ h => List.mem_cons_of_mem _ (List.mem_append_right _ h)
  refine lv_aload_n hx hb dX9_needWord_0 rfl (lv_at hl 0 rfl) ?_
  have hPc := hP.sub (ws' := [(o_tape xa tape_length tape_fault tape_faultPlace tape_wordFrom tape_wordTo tape_at), (aI (xa 2) (cy 0) 600 bytes)]) [0, 1] rfl
  have hDc := hD.sub (ws' := [(o_tape xa tape_length tape_fault tape_faultPlace tape_wordFrom tape_wordTo tape_at), (aI (xa 2) (cy 0) 600 bytes)]) [0, 1] (by decide) rfl
  have hFc := va_free (wc := [(o_tape xa tape_length tape_fault tape_faultPlace tape_wordFrom tape_wordTo tape_at), (aI (xa 2) (cy 0) 600 bytes)]) hD hS hA [0, 1] rfl
  refine va_callv (va_runV (As := []) (rest := []) ⟨hx, hb, hml, hown, hts⟩ (sX9_skipGap l D cy H.size xa tape_length tape_fault tape_faultPlace tape_wordFrom tape_wordTo tape_at bytes f_tape_length f_tape_wordFrom f_tape_wordTo f_tape_at) (cwV 0 hts g_sX9_needWord_sX9_skipGap_0 rfl rfl rfl (by decide +kernel) ⟨Nat.le_of_ble_eq_true rfl, Nat.le_of_ble_eq_true rfl⟩) (gp_preV (RX9, TX9, 7) 9 0 hPc hDc hK hN rfl rfl) rfl rfl hl.1 rfl (lv_room (Nat.le_of_ble_eq_true rfl)) dX9_needWord_1 ⟨Nat.le_of_ble_eq_true rfl, Nat.le_of_ble_eq_true rfl⟩) hS (fun q _ h => hFc q h) hFc (fun u t H locs ht hvm hw hB hz1 hk1 hS => ?_)
  obtain ⟨tape_fault_1, tape_faultPlace_2, tape_at_3⟩ := u
  obtain ⟨hP, hD⟩ := gp_joinS (wc := [(o_tape xa tape_length tape_fault tape_faultPlace tape_wordFrom tape_wordTo tape_at), (aI (xa 2) (cy 0) 600 bytes)]) (w1 := [(o_tape xa tape_length tape_fault_1 tape_faultPlace_2 tape_wordFrom tape_wordTo tape_at_3), (aI (xa 2) (cy 0) 600 bytes)]) hP hD [0, 1] rfl rfl hk1 ht hB
  obtain ⟨w_4, w_5, w_6⟩ := hw
  have hP : va_P D vwCl [(o_tape xa tape_length tape_fault_1 tape_faultPlace_2 tape_wordFrom tape_wordTo tape_at_3), (aI (xa 2) (cy 0) 600 bytes)] H := hP
  have hD := gp_sD hP hD
  refine lv_aload_n hx hb dX9_needWord_4 rfl (lv_at hl 0 rfl) ?_
  refine va_get (D := D) (ci := 9) (v := .int tape_fault_1) (C := RX9) (T := TX9) (N := 7) hx hb hts hiX9 hown hK hP 0 rfl rfl 1 (by decide) (hts (.fieldLink RX9 9 "GhostPane$Tape" "fault" "I") (List.mem_of_getElem? (i := 11) rfl)) (fun _ h9 => h9) rfl dX9_needWord_5 ?_
  refine lv_if_ne (tgt := 40) hx hb dX9_needWord_8 (by decide) (fun c_7 => ?_) (fun c_7 => ?_)
  · exact W.vret hx hb hr (fun t ht hW => ⟨⟨⟨tape_fault_1, tape_faultPlace_2, tape_wordFrom, tape_wordTo, tape_at_3⟩, rfl, ⟨f_tape_wordFrom, f_tape_wordTo, w_4, w_5, w_6⟩, gp_end ht hP hD⟩, hS.F ht⟩) hS.2.2 dX9_needWord_40
  · refine lv_aload_n hx hb dX9_needWord_11 rfl (lv_at hl 0 rfl) ?_
    have hPc := hP.sub (ws' := [(o_tape xa tape_length tape_fault_1 tape_faultPlace_2 tape_wordFrom tape_wordTo tape_at_3), (aI (xa 2) (cy 0) 600 bytes)]) [0, 1] rfl
    have hDc := hD.sub (ws' := [(o_tape xa tape_length tape_fault_1 tape_faultPlace_2 tape_wordFrom tape_wordTo tape_at_3), (aI (xa 2) (cy 0) 600 bytes)]) [0, 1] (by decide) rfl
    have hFc := va_free (wc := [(o_tape xa tape_length tape_fault_1 tape_faultPlace_2 tape_wordFrom tape_wordTo tape_at_3), (aI (xa 2) (cy 0) 600 bytes)]) hD hS hA [0, 1] rfl
    refine va_callv (va_runV (As := []) (rest := []) ⟨hx, hb, hml, hown, hts⟩ (sX9_readWord l D cy H.size xa tape_length tape_fault_1 tape_faultPlace_2 tape_wordFrom tape_wordTo tape_at_3 bytes f_tape_length f_tape_wordFrom f_tape_wordTo w_4) (cwV 0 hts g_sX9_needWord_sX9_readWord_1 rfl rfl rfl (by decide +kernel) ⟨Nat.le_of_ble_eq_true rfl, Nat.le_of_ble_eq_true rfl⟩) (gp_preV (RX9, TX9, 7) 9 0 hPc hDc hK hN rfl rfl) rfl rfl hl.1 rfl (lv_room (Nat.le_of_ble_eq_true rfl)) dX9_needWord_12 ⟨Nat.le_of_ble_eq_true rfl, Nat.le_of_ble_eq_true rfl⟩) hS (fun q _ h => hFc q h) hFc (fun u t H locs ht hvm hw hB hz1 hk1 hS => ?_)
    obtain ⟨tape_wordFrom_8, tape_wordTo_9, tape_at_10⟩ := u
    obtain ⟨hP, hD⟩ := gp_joinS (wc := [(o_tape xa tape_length tape_fault_1 tape_faultPlace_2 tape_wordFrom tape_wordTo tape_at_3), (aI (xa 2) (cy 0) 600 bytes)]) (w1 := [(o_tape xa tape_length tape_fault_1 tape_faultPlace_2 tape_wordFrom_8 tape_wordTo_9 tape_at_10), (aI (xa 2) (cy 0) 600 bytes)]) hP hD [0, 1] rfl rfl hk1 ht hB
    obtain ⟨w_11, w_12, w_13, w_14, w_15, w_16⟩ := hw
    have hP : va_P D vwCl [(o_tape xa tape_length tape_fault_1 tape_faultPlace_2 tape_wordFrom_8 tape_wordTo_9 tape_at_10), (aI (xa 2) (cy 0) 600 bytes)] H := hP
    have hD := gp_sD hP hD
    refine lv_aload_n hx hb dX9_needWord_15 rfl (lv_at hl 0 rfl) ?_
    refine lv_aload_n hx hb dX9_needWord_16 rfl (lv_at hl 1 rfl) ?_
    have hPc := hP.sub (ws' := [(o_tape xa tape_length tape_fault_1 tape_faultPlace_2 tape_wordFrom_8 tape_wordTo_9 tape_at_10), (aI (xa 2) (cy 0) 600 bytes)]) [0, 1] rfl
    have hDc := hD.sub (ws' := [(o_tape xa tape_length tape_fault_1 tape_faultPlace_2 tape_wordFrom_8 tape_wordTo_9 tape_at_10), (aI (xa 2) (cy 0) 600 bytes)]) [0, 1] (by decide) rfl
    have hFc := va_free (wc := [(o_tape xa tape_length tape_fault_1 tape_faultPlace_2 tape_wordFrom_8 tape_wordTo_9 tape_at_10), (aI (xa 2) (cy 0) 600 bytes)]) hD hS hA [0, 1] rfl
    refine va_calli (va_runV (As := [.ref (sk ks)]) (rest := []) ⟨hx, hb, hml, hown, hts⟩ (sX9_isWord l D cy H.size xa sk sv tape_length tape_fault_1 tape_faultPlace_2 tape_wordFrom_8 tape_wordTo_9 tape_at_10 bytes ks f_tape_length w_11 w_12 w_13 q0) (cwV 1 hts g_sX9_needWord_sX9_isWord_2 rfl rfl rfl (by decide +kernel) ⟨Nat.le_of_ble_eq_true rfl, Nat.le_of_ble_eq_true rfl⟩) (gp_preVS hZ hS hFc (RX9, TX9, 7) 9 0 hPc hDc hK hN rfl rfl) rfl rfl hl.1 rfl (lv_room (Nat.le_of_ble_eq_true rfl)) dX9_needWord_17 ⟨Nat.le_of_ble_eq_true rfl, Nat.le_of_ble_eq_true rfl⟩) hS (fun q _ h => hFc q h) hFc (fun r_17 u t H locs ht hvm hw hB hz1 hk1 hS => ?_)
    have hP := gp_joinU (wc := [(o_tape xa tape_length tape_fault_1 tape_faultPlace_2 tape_wordFrom_8 tape_wordTo_9 tape_at_10), (aI (xa 2) (cy 0) 600 bytes)]) hP hD [0, 1] rfl hk1 ht hB
    have w_18 := hw
    refine lv_if_ne (tgt := 40) hx hb dX9_needWord_20 (by decide) (fun c_19 => ?_) (fun c_19 => ?_)
    · exact W.vret hx hb hr (fun t ht hW => ⟨⟨⟨tape_fault_1, tape_faultPlace_2, tape_wordFrom_8, tape_wordTo_9, tape_at_10⟩, rfl, ⟨w_11, w_12, w_13, (lf_sX9_needWord_1 tape_at tape_at_3 tape_wordFrom_8 tape_wordTo_9 tape_at_10 f_tape_at w_4 w_5 w_11 w_12 w_13 w_14 w_15 w_16), w_6⟩, gp_end ht hP hD⟩, hS.F ht⟩) hS.2.2 dX9_needWord_40
    · refine lv_aload_n hx hb dX9_needWord_23 rfl (lv_at hl 0 rfl) ?_
      refine lv_aload_n hx hb dX9_needWord_24 rfl (lv_at hl 2 rfl) ?_
      have hPc := hP.sub (ws' := [(o_tape xa tape_length tape_fault_1 tape_faultPlace_2 tape_wordFrom_8 tape_wordTo_9 tape_at_10), (aI (xa 2) (cy 0) 600 bytes)]) [0, 1] rfl
      have hDc := hD.sub (ws' := [(o_tape xa tape_length tape_fault_1 tape_faultPlace_2 tape_wordFrom_8 tape_wordTo_9 tape_at_10), (aI (xa 2) (cy 0) 600 bytes)]) [0, 1] (by decide) rfl
      have hFc := va_free (wc := [(o_tape xa tape_length tape_fault_1 tape_faultPlace_2 tape_wordFrom_8 tape_wordTo_9 tape_at_10), (aI (xa 2) (cy 0) 600 bytes)]) hD hS hA [0, 1] rfl
      refine va_calli (va_runV (As := [.ref (sk kt)]) (rest := []) ⟨hx, hb, hml, hown, hts⟩ (sX9_isWord l D cy H.size xa sk sv tape_length tape_fault_1 tape_faultPlace_2 tape_wordFrom_8 tape_wordTo_9 tape_at_10 bytes kt f_tape_length w_11 w_12 w_13 q1) (cwV 1 hts g_sX9_needWord_sX9_isWord_2 rfl rfl rfl (by decide +kernel) ⟨Nat.le_of_ble_eq_true rfl, Nat.le_of_ble_eq_true rfl⟩) (gp_preVS hZ hS hFc (RX9, TX9, 7) 9 0 hPc hDc hK hN rfl rfl) rfl rfl hl.1 rfl (lv_room (Nat.le_of_ble_eq_true rfl)) dX9_needWord_25 ⟨Nat.le_of_ble_eq_true rfl, Nat.le_of_ble_eq_true rfl⟩) hS (fun q _ h => hFc q h) hFc (fun r_20 u t H locs ht hvm hw hB hz1 hk1 hS => ?_)
      have hP := gp_joinU (wc := [(o_tape xa tape_length tape_fault_1 tape_faultPlace_2 tape_wordFrom_8 tape_wordTo_9 tape_at_10), (aI (xa 2) (cy 0) 600 bytes)]) hP hD [0, 1] rfl hk1 ht hB
      have w_21 := hw
      refine lv_if_ne (tgt := 40) hx hb dX9_needWord_28 (by decide) (fun c_22 => ?_) (fun c_22 => ?_)
      · exact W.vret hx hb hr (fun t ht hW => ⟨⟨⟨tape_fault_1, tape_faultPlace_2, tape_wordFrom_8, tape_wordTo_9, tape_at_10⟩, rfl, ⟨w_11, w_12, w_13, (lf_sX9_needWord_2 tape_at tape_at_3 tape_wordFrom_8 tape_wordTo_9 tape_at_10 f_tape_at w_4 w_5 w_11 w_12 w_13 w_14 w_15 w_16), w_6⟩, gp_end ht hP hD⟩, hS.F ht⟩) hS.2.2 dX9_needWord_40
      · refine lv_aload_n hx hb dX9_needWord_31 rfl (lv_at hl 0 rfl) ?_
        refine lv_iconst (v := 1) hx hb dX9_needWord_32 (by decide) ?_
        refine lv_aload_n hx hb dX9_needWord_33 rfl (lv_at hl 0 rfl) ?_
        refine va_get (D := D) (ci := 9) (v := .int tape_wordFrom_8) (C := RX9) (T := TX9) (N := 7) hx hb hts hiX9 hown hK hP 0 rfl rfl 3 (by decide) (hts (.fieldLink RX9 39 "GhostPane$Tape" "wordFrom" "I") (List.mem_of_getElem? (i := 20) rfl)) (fun _ h9 => h9) rfl dX9_needWord_34 ?_
        have hPc := hP.sub (ws' := [(o_tape xa tape_length tape_fault_1 tape_faultPlace_2 tape_wordFrom_8 tape_wordTo_9 tape_at_10)]) [0] rfl
        have hDc := hD.sub (ws' := [(o_tape xa tape_length tape_fault_1 tape_faultPlace_2 tape_wordFrom_8 tape_wordTo_9 tape_at_10)]) [0] (by decide) rfl
        have hFc := va_free (wc := [(o_tape xa tape_length tape_fault_1 tape_faultPlace_2 tape_wordFrom_8 tape_wordTo_9 tape_at_10)]) hD hS hA [0] rfl
        refine va_callv (va_runV (As := [.int 1, .int tape_wordFrom_8]) (rest := []) ⟨hx, hb, hml, hown, hts⟩ (sX9_fail l D cy H.size xa tape_length tape_fault_1 tape_faultPlace_2 tape_wordFrom_8 tape_wordTo_9 tape_at_10 1 tape_wordFrom_8 f_tape_length w_11 w_12 w_13 (show ¬ 1 = 0 by decide)) (cwV 2 hts g_sX9_needWord_sX9_fail_3 rfl rfl rfl (by decide +kernel) ⟨Nat.le_of_ble_eq_true rfl, Nat.le_of_ble_eq_true rfl⟩) (gp_preV (RX9, TX9, 7) 9 0 hPc hDc hK hN rfl rfl) rfl rfl hl.1 rfl (lv_room (Nat.le_of_ble_eq_true rfl)) dX9_needWord_37 ⟨Nat.le_of_ble_eq_true rfl, Nat.le_of_ble_eq_true rfl⟩) hS (fun q _ h => hFc q h) hFc (fun u t H locs ht hvm hw hB hz1 hk1 hS => ?_)
        obtain ⟨tape_fault_23, tape_faultPlace_24⟩ := u
        obtain ⟨hP, hD⟩ := gp_joinS (wc := [(o_tape xa tape_length tape_fault_1 tape_faultPlace_2 tape_wordFrom_8 tape_wordTo_9 tape_at_10)]) (w1 := [(o_tape xa tape_length tape_fault_23 tape_faultPlace_24 tape_wordFrom_8 tape_wordTo_9 tape_at_10)]) hP hD [0] rfl rfl hk1 ht hB
        have w_25 := hw
        have hP : va_P D vwCl [(o_tape xa tape_length tape_fault_23 tape_faultPlace_24 tape_wordFrom_8 tape_wordTo_9 tape_at_10), (aI (xa 2) (cy 0) 600 bytes)] H := hP
        have hD := gp_sD hP hD
        exact W.vret hx hb hr (fun t ht hW => ⟨⟨⟨tape_fault_23, tape_faultPlace_24, tape_wordFrom_8, tape_wordTo_9, tape_at_10⟩, rfl, ⟨w_11, w_12, w_13, (lf_sX9_needWord_3 tape_at tape_at_3 tape_wordFrom_8 tape_wordTo_9 tape_at_10 f_tape_at w_4 w_5 w_11 w_12 w_13 w_14 w_15 w_16), (lf_sX9_needWord_4 tape_fault tape_fault_1 tape_fault_23 w_6 c_7 w_25)⟩, gp_end ht hP hD⟩, hS.F ht⟩) hS.2.2 dX9_needWord_40

theorem lf_sX9_isLetter2_1 (tape_length : Int32) (tape_at : Int32) (f_tape_length : sp_in tape_length 0 600) (f_tape_at : sp_in tape_at 0 600) (c_1 : tape_at < tape_length) : sp_in tape_at 0 599 := by
  first | grind | (simp only [sp_in, sp_pl, sp_far, sp_two] at *; grind)
theorem lf_sX9_isLetter2_2 (tape_length : Int32) (tape_at : Int32) (f_tape_length : sp_in tape_length 0 600) (f_tape_at : sp_in tape_at 0 600) (c_1 : tape_at < tape_length) : (0 : Int32) = 1 → tape_at < tape_length := by
  first | grind | (simp only [sp_in, sp_pl, sp_far, sp_two] at *; grind)
theorem lf_sX9_isLetter2_3 (tape_length : Int32) (tape_at : Int32) (f_tape_length : sp_in tape_length 0 600) (f_tape_at : sp_in tape_at 0 600) (c_1 : tape_at < tape_length) : (0 : Int32) = 1 → tape_at < tape_length := by
  first | grind | (simp only [sp_in, sp_pl, sp_far, sp_two] at *; grind)
theorem lf_sX9_isLetter2_4 (tape_length : Int32) (tape_at : Int32) (f_tape_length : sp_in tape_length 0 600) (f_tape_at : sp_in tape_at 0 600) (c_1 : tape_at < tape_length) : (1 : Int32) = 1 → tape_at < tape_length := by
  first | grind | (simp only [sp_in, sp_pl, sp_far, sp_two] at *; grind)
theorem lf_sX9_isLetter2_5 (tape_length : Int32) (tape_at : Int32) (f_tape_length : sp_in tape_length 0 600) (f_tape_at : sp_in tape_at 0 600) (c_1 : tape_at < tape_length) : (1 : Int32) = 1 → tape_at < tape_length := by
  first | grind | (simp only [sp_in, sp_pl, sp_far, sp_two] at *; grind)
theorem lf_sX9_isLetter2_6 (tape_length : Int32) (tape_at : Int32) (f_tape_length : sp_in tape_length 0 600) (f_tape_at : sp_in tape_at 0 600) (c_1 : tape_at < tape_length) : (0 : Int32) = 1 → tape_at < tape_length := by
  first | grind | (simp only [sp_in, sp_pl, sp_far, sp_two] at *; grind)
theorem lf_sX9_isLetter2_7 (tape_length : Int32) (tape_at : Int32) (f_tape_length : sp_in tape_length 0 600) (f_tape_at : sp_in tape_at 0 600) (c_1 : tape_at < tape_length) : (0 : Int32) = 1 → tape_at < tape_length := by
  first | grind | (simp only [sp_in, sp_pl, sp_far, sp_two] at *; grind)
theorem lf_sX9_isLetter2_8 (tape_length : Int32) (tape_at : Int32) (f_tape_length : sp_in tape_length 0 600) (f_tape_at : sp_in tape_at 0 600) (c_1 : tape_at < tape_length) : (1 : Int32) = 1 → tape_at < tape_length := by
  first | grind | (simp only [sp_in, sp_pl, sp_far, sp_two] at *; grind)
theorem lf_sX9_isLetter2_9 (tape_length : Int32) (tape_at : Int32) (f_tape_length : sp_in tape_length 0 600) (f_tape_at : sp_in tape_at 0 600) (c_1 : ¬ tape_at < tape_length) : (0 : Int32) = 1 → tape_at < tape_length := by
  first | grind | (simp only [sp_in, sp_pl, sp_far, sp_two] at *; grind)
def v_sX9_isLetter2 : List Cond := .code yX9_isLetter cX9_isLetter 2 (some .boolean) :: (([.fieldLink RX9 25 "GhostPane$Tape" "at" "I", .fieldLink RX9 22 "GhostPane$Tape" "length" "I", .fieldLink RX9 18 "GhostPane$Tape" "bytes" "[B"] : List Cond) ++ wsX90)
set_option maxHeartbeats 4000000 in
set_option maxRecDepth 100000 in
theorem sX9_isLetter2 (l : Launch) (D : va_G) (cy : Nat → ClassId) (sz : Nat) (xa : Nat → Nat) (tape_length : Int32) (tape_fault : Int32) (tape_faultPlace : Int32) (tape_wordFrom : Int32) (tape_wordTo : Int32) (tape_at : Int32) (bytes : Nat → Int32) (f_tape_length : sp_in tape_length 0 600) (f_tape_wordFrom : sp_in tape_wordFrom 0 600) (f_tape_wordTo : sp_in tape_wordTo 0 600) (f_tape_at : sp_in tape_at 0 600) : Met l yX9_isLetter v_sX9_isLetter2 ({ frames := 0, cells := 0, slots := 0, locals := 0 } : Room) (va_Pc [.ref (xa 1)] (gp_B D cy sz [(o_tape xa tape_length tape_fault tape_faultPlace tape_wordFrom tape_wordTo tape_at), (aI (xa 2) (cy 0) 600 bytes)])) (va_Qi (fun (r : Int32) (u : Unit) => (r = 0 ∨ r = 1) ∧ (r = 1 → tape_at < tape_length)) (fun u => gp_E D (va_A [(o_tape xa tape_length tape_fault tape_faultPlace tape_wordFrom tape_wordTo tape_at), (aI (xa 2) (cy 0) 600 bytes)] sz) [(o_tape xa tape_length tape_fault tape_faultPlace tape_wordFrom tape_wordTo tape_at), (aI (xa 2) (cy 0) 600 bytes)]) (va_A [(o_tape xa tape_length tape_fault tape_faultPlace tape_wordFrom tape_wordTo tape_at), (aI (xa 2) (cy 0) 600 bytes)] sz)) 0 0 (va_A [(o_tape xa tape_length tape_fault tape_faultPlace tape_wordFrom tape_wordTo tape_at), (aI (xa 2) (cy 0) 600 bytes)] sz) := by
  refine gp_met (Qc := fun A => va_Qi (fun (r : Int32) (u : Unit) => (r = 0 ∨ r = 1) ∧ (r = 1 → tape_at < tape_length)) (fun u => gp_E D A [(o_tape xa tape_length tape_fault tape_faultPlace tape_wordFrom tape_wordTo tape_at), (aI (xa 2) (cy 0) 600 bytes)]) A) (cc := cX9_isLetter) (maxL := 2) (ret := (some .boolean)) (by decide) rfl (Nat.le_of_ble_eq_true rfl) ?_
  intro p e s m below meth c A ls H hx hb hml hr hlocks hts hown hin hK hN hS hP hD hA hl
  have hown : s.vm.findClass RX9 = some m.cls := hown
  have hl : lv_has ls 2 [(0, .ref (xa 1))] := hl
  have hiX9 : ∀ w ∈ u_ws RX9 TX9 7, w ∈ v_sX9_isLetter2 := fun _ h => List.mem_cons_of_mem _ (List.mem_append_right _ h)
  refine lv_aload_n hx hb dX9_isLetter_0 rfl (lv_at hl 0 rfl) ?_
  refine va_get (D := D) (ci := 9) (v := .int tape_at) (C := RX9) (T := TX9) (N := 7) hx hb hts hiX9 hown hK hP 0 rfl rfl 5 (by decide) (hts (.fieldLink RX9 25 "GhostPane$Tape" "at" "I") (List.mem_of_getElem? (i := 1) rfl)) (fun _ h9 => h9) rfl dX9_isLetter_1 ?_
  refine lv_aload_n hx hb dX9_isLetter_4 rfl (lv_at hl 0 rfl) ?_
  refine va_get (D := D) (ci := 9) (v := .int tape_length) (C := RX9) (T := TX9) (N := 7) hx hb hts hiX9 hown hK hP 0 rfl rfl 0 (by decide) (hts (.fieldLink RX9 22 "GhostPane$Tape" "length" "I") (List.mem_of_getElem? (i := 2) rfl)) (fun _ h9 => h9) rfl dX9_isLetter_5 ?_
  refine lv_icmp_lt (tgt := 13) hx hb dX9_isLetter_8 (by decide) (fun c_1 => ?_) (fun c_1 => ?_)
  · refine lv_aload_n hx hb dX9_isLetter_13 rfl (lv_at hl 0 rfl) ?_
    refine va_get (D := D) (ci := 9) (v := .ref (xa 2)) (C := RX9) (T := TX9) (N := 7) hx hb hts hiX9 hown hK hP 0 rfl rfl 6 (by decide) (hts (.fieldLink RX9 18 "GhostPane$Tape" "bytes" "[B") (List.mem_of_getElem? (i := 3) rfl)) (fun _ h9 => h9) rfl dX9_isLetter_14 ?_
    refine lv_aload_n hx hb dX9_isLetter_17 rfl (lv_at hl 0 rfl) ?_
    refine va_get (D := D) (ci := 9) (v := .int tape_at) (C := RX9) (T := TX9) (N := 7) hx hb hts hiX9 hown hK hP 0 rfl rfl 5 (by decide) (hts (.fieldLink RX9 25 "GhostPane$Tape" "at" "I") (List.mem_of_getElem? (i := 1) rfl)) (fun _ h9 => h9) rfl dX9_isLetter_18 ?_
    refine va_bald hx hb hK hP 1 0 rfl rfl (gp_in (hi := 599) (lf_sX9_isLetter2_1 tape_length tape_at f_tape_length f_tape_at c_1) (by decide)) dX9_isLetter_21 ?_
    refine gp_fi (fun y_2 => ?_)
    refine lv_istore_n (lv' := [(1, .int y_2), (0, .ref (xa 1))]) hx hb dX9_isLetter_22 rfl hl (by decide) rfl (fun ls hl => ?_)
    refine lv_iload_n hx hb dX9_isLetter_23 rfl (lv_at hl 0 rfl) ?_
    refine lv_bipush (v := 97) hx hb dX9_isLetter_24 (by decide) ?_
    refine lv_icmp_lt (tgt := 35) hx hb dX9_isLetter_26 (by decide) (fun c_3 => ?_) (fun c_3 => ?_)
    · refine lv_iload_n hx hb dX9_isLetter_35 rfl (lv_at hl 0 rfl) ?_
      refine lv_bipush (v := 65) hx hb dX9_isLetter_36 (by decide) ?_
      refine lv_icmp_lt (tgt := 51) hx hb dX9_isLetter_38 (by decide) (fun c_4 => ?_) (fun c_4 => ?_)
      · refine lv_iconst (v := 0) hx hb dX9_isLetter_51 (by decide) ?_
        exact W.zret (v := 0) hx hb hr narrow_b0 (fun t ht hW => ⟨⟨0, (), rfl, ⟨(show (0 : Int32) = 0 ∨ (0 : Int32) = 1 by decide), (lf_sX9_isLetter2_2 tape_length tape_at f_tape_length f_tape_at c_1)⟩, gp_end ht hP hD⟩, hS.F ht⟩) hS.2.2 dX9_isLetter_52
      · refine lv_iload_n hx hb dX9_isLetter_41 rfl (lv_at hl 0 rfl) ?_
        refine lv_bipush (v := 90) hx hb dX9_isLetter_42 (by decide) ?_
        refine lv_icmp_gt (tgt := 51) hx hb dX9_isLetter_44 (by decide) (fun c_5 => ?_) (fun c_5 => ?_)
        · refine lv_iconst (v := 0) hx hb dX9_isLetter_51 (by decide) ?_
          exact W.zret (v := 0) hx hb hr narrow_b0 (fun t ht hW => ⟨⟨0, (), rfl, ⟨(show (0 : Int32) = 0 ∨ (0 : Int32) = 1 by decide), (lf_sX9_isLetter2_3 tape_length tape_at f_tape_length f_tape_at c_1)⟩, gp_end ht hP hD⟩, hS.F ht⟩) hS.2.2 dX9_isLetter_52
        · refine lv_iconst (v := 1) hx hb dX9_isLetter_47 (by decide) ?_
          refine lv_goto (tgt := 52) hx hb dX9_isLetter_48 (by decide) ?_
          exact W.zret (v := 1) hx hb hr narrow_b1 (fun t ht hW => ⟨⟨1, (), rfl, ⟨(show (1 : Int32) = 0 ∨ (1 : Int32) = 1 by decide), (lf_sX9_isLetter2_4 tape_length tape_at f_tape_length f_tape_at c_1)⟩, gp_end ht hP hD⟩, hS.F ht⟩) hS.2.2 dX9_isLetter_52
    · refine lv_iload_n hx hb dX9_isLetter_29 rfl (lv_at hl 0 rfl) ?_
      refine lv_bipush (v := 122) hx hb dX9_isLetter_30 (by decide) ?_
      refine lv_icmp_le (tgt := 47) hx hb dX9_isLetter_32 (by decide) (fun c_6 => ?_) (fun c_6 => ?_)
      · refine lv_iconst (v := 1) hx hb dX9_isLetter_47 (by decide) ?_
        refine lv_goto (tgt := 52) hx hb dX9_isLetter_48 (by decide) ?_
        exact W.zret (v := 1) hx hb hr narrow_b1 (fun t ht hW => ⟨⟨1, (), rfl, ⟨(show (1 : Int32) = 0 ∨ (1 : Int32) = 1 by decide), (lf_sX9_isLetter2_5 tape_length tape_at f_tape_length f_tape_at c_1)⟩, gp_end ht hP hD⟩, hS.F ht⟩) hS.2.2 dX9_isLetter_52
      · refine lv_iload_n hx hb dX9_isLetter_35 rfl (lv_at hl 0 rfl) ?_
        refine lv_bipush (v := 65) hx hb dX9_isLetter_36 (by decide) ?_
        refine lv_icmp_lt (tgt := 51) hx hb dX9_isLetter_38 (by decide) (fun c_7 => ?_) (fun c_7 => ?_)
        · refine lv_iconst (v := 0) hx hb dX9_isLetter_51 (by decide) ?_
          exact W.zret (v := 0) hx hb hr narrow_b0 (fun t ht hW => ⟨⟨0, (), rfl, ⟨(show (0 : Int32) = 0 ∨ (0 : Int32) = 1 by decide), (lf_sX9_isLetter2_6 tape_length tape_at f_tape_length f_tape_at c_1)⟩, gp_end ht hP hD⟩, hS.F ht⟩) hS.2.2 dX9_isLetter_52
        · refine lv_iload_n hx hb dX9_isLetter_41 rfl (lv_at hl 0 rfl) ?_
          refine lv_bipush (v := 90) hx hb dX9_isLetter_42 (by decide) ?_
          refine lv_icmp_gt (tgt := 51) hx hb dX9_isLetter_44 (by decide) (fun c_8 => ?_) (fun c_8 => ?_)
          · refine lv_iconst (v := 0) hx hb dX9_isLetter_51 (by decide) ?_
            exact W.zret (v := 0) hx hb hr narrow_b0 (fun t ht hW => ⟨⟨0, (), rfl, ⟨(show (0 : Int32) = 0 ∨ (0 : Int32) = 1 by decide), (lf_sX9_isLetter2_7 tape_length tape_at f_tape_length f_tape_at c_1)⟩, gp_end ht hP hD⟩, hS.F ht⟩) hS.2.2 dX9_isLetter_52
          · refine lv_iconst (v := 1) hx hb dX9_isLetter_47 (by decide) ?_
            refine lv_goto (tgt := 52) hx hb dX9_isLetter_48 (by decide) ?_
            exact W.zret (v := 1) hx hb hr narrow_b1 (fun t ht hW => ⟨⟨1, (), rfl, ⟨(show (1 : Int32) = 0 ∨ (1 : Int32) = 1 by decide), (lf_sX9_isLetter2_8 tape_length tape_at f_tape_length f_tape_at c_1)⟩, gp_end ht hP hD⟩, hS.F ht⟩) hS.2.2 dX9_isLetter_52
  · refine lv_iconst (v := 0) hx hb dX9_isLetter_11 (by decide) ?_
    exact W.zret (v := 0) hx hb hr narrow_b0 (fun t ht hW => ⟨⟨0, (), rfl, ⟨(show (0 : Int32) = 0 ∨ (0 : Int32) = 1 by decide), (lf_sX9_isLetter2_9 tape_length tape_at f_tape_length f_tape_at c_1)⟩, gp_end ht hP hD⟩, hS.F ht⟩) hS.2.2 dX9_isLetter_12

theorem lf_sX9_isDigit2_1 (tape_length : Int32) (tape_at : Int32) (f_tape_length : sp_in tape_length 0 600) (f_tape_at : sp_in tape_at 0 600) (c_1 : tape_length ≤ tape_at) : (0 : Int32) = 1 → tape_at < tape_length := by
  first | grind | (simp only [sp_in, sp_pl, sp_far, sp_two] at *; grind)
theorem lf_sX9_isDigit2_2 (tape_length : Int32) (tape_at : Int32) (f_tape_length : sp_in tape_length 0 600) (f_tape_at : sp_in tape_at 0 600) (c_1 : ¬ tape_length ≤ tape_at) : sp_in tape_at 0 599 := by
  first | grind | (simp only [sp_in, sp_pl, sp_far, sp_two] at *; grind)
theorem lf_sX9_isDigit2_3 (tape_length : Int32) (tape_at : Int32) (f_tape_length : sp_in tape_length 0 600) (f_tape_at : sp_in tape_at 0 600) (c_1 : ¬ tape_length ≤ tape_at) : (0 : Int32) = 1 → tape_at < tape_length := by
  first | grind | (simp only [sp_in, sp_pl, sp_far, sp_two] at *; grind)
theorem lf_sX9_isDigit2_4 (tape_length : Int32) (tape_at : Int32) (f_tape_length : sp_in tape_length 0 600) (f_tape_at : sp_in tape_at 0 600) (c_1 : ¬ tape_length ≤ tape_at) : sp_in tape_at 0 599 := by
  first | grind | (simp only [sp_in, sp_pl, sp_far, sp_two] at *; grind)
theorem lf_sX9_isDigit2_5 (tape_length : Int32) (tape_at : Int32) (f_tape_length : sp_in tape_length 0 600) (f_tape_at : sp_in tape_at 0 600) (c_1 : ¬ tape_length ≤ tape_at) : (0 : Int32) = 1 → tape_at < tape_length := by
  first | grind | (simp only [sp_in, sp_pl, sp_far, sp_two] at *; grind)
theorem lf_sX9_isDigit2_6 (tape_length : Int32) (tape_at : Int32) (f_tape_length : sp_in tape_length 0 600) (f_tape_at : sp_in tape_at 0 600) (c_1 : ¬ tape_length ≤ tape_at) : (1 : Int32) = 1 → tape_at < tape_length := by
  first | grind | (simp only [sp_in, sp_pl, sp_far, sp_two] at *; grind)
def v_sX9_isDigit2 : List Cond := .code yX9_isDigit cX9_isDigit 1 (some .boolean) :: (([.fieldLink RX9 25 "GhostPane$Tape" "at" "I", .fieldLink RX9 22 "GhostPane$Tape" "length" "I", .fieldLink RX9 18 "GhostPane$Tape" "bytes" "[B"] : List Cond) ++ wsX90)
set_option maxHeartbeats 4000000 in
set_option maxRecDepth 100000 in
theorem sX9_isDigit2 (l : Launch) (D : va_G) (cy : Nat → ClassId) (sz : Nat) (xa : Nat → Nat) (tape_length : Int32) (tape_fault : Int32) (tape_faultPlace : Int32) (tape_wordFrom : Int32) (tape_wordTo : Int32) (tape_at : Int32) (bytes : Nat → Int32) (f_tape_length : sp_in tape_length 0 600) (f_tape_wordFrom : sp_in tape_wordFrom 0 600) (f_tape_wordTo : sp_in tape_wordTo 0 600) (f_tape_at : sp_in tape_at 0 600) : Met l yX9_isDigit v_sX9_isDigit2 ({ frames := 0, cells := 0, slots := 0, locals := 0 } : Room) (va_Pc [.ref (xa 1)] (gp_B D cy sz [(o_tape xa tape_length tape_fault tape_faultPlace tape_wordFrom tape_wordTo tape_at), (aI (xa 2) (cy 0) 600 bytes)])) (va_Qi (fun (r : Int32) (u : Unit) => (r = 0 ∨ r = 1) ∧ (r = 1 → tape_at < tape_length)) (fun u => gp_E D (va_A [(o_tape xa tape_length tape_fault tape_faultPlace tape_wordFrom tape_wordTo tape_at), (aI (xa 2) (cy 0) 600 bytes)] sz) [(o_tape xa tape_length tape_fault tape_faultPlace tape_wordFrom tape_wordTo tape_at), (aI (xa 2) (cy 0) 600 bytes)]) (va_A [(o_tape xa tape_length tape_fault tape_faultPlace tape_wordFrom tape_wordTo tape_at), (aI (xa 2) (cy 0) 600 bytes)] sz)) 0 0 (va_A [(o_tape xa tape_length tape_fault tape_faultPlace tape_wordFrom tape_wordTo tape_at), (aI (xa 2) (cy 0) 600 bytes)] sz) := by
  refine gp_met (Qc := fun A => va_Qi (fun (r : Int32) (u : Unit) => (r = 0 ∨ r = 1) ∧ (r = 1 → tape_at < tape_length)) (fun u => gp_E D A [(o_tape xa tape_length tape_fault tape_faultPlace tape_wordFrom tape_wordTo tape_at), (aI (xa 2) (cy 0) 600 bytes)]) A) (cc := cX9_isDigit) (maxL := 1) (ret := (some .boolean)) (by decide) rfl (Nat.le_of_ble_eq_true rfl) ?_
  intro p e s m below meth c A ls H hx hb hml hr hlocks hts hown hin hK hN hS hP hD hA hl
  have hown : s.vm.findClass RX9 = some m.cls := hown
  have hl : lv_has ls 1 [(0, .ref (xa 1))] := hl
  have hiX9 : ∀ w ∈ u_ws RX9 TX9 7, w ∈ v_sX9_isDigit2 := fun _ h => List.mem_cons_of_mem _ (List.mem_append_right _ h)
  refine lv_aload_n hx hb dX9_isDigit_0 rfl (lv_at hl 0 rfl) ?_
  refine va_get (D := D) (ci := 9) (v := .int tape_at) (C := RX9) (T := TX9) (N := 7) hx hb hts hiX9 hown hK hP 0 rfl rfl 5 (by decide) (hts (.fieldLink RX9 25 "GhostPane$Tape" "at" "I") (List.mem_of_getElem? (i := 1) rfl)) (fun _ h9 => h9) rfl dX9_isDigit_1 ?_
  refine lv_aload_n hx hb dX9_isDigit_4 rfl (lv_at hl 0 rfl) ?_
  refine va_get (D := D) (ci := 9) (v := .int tape_length) (C := RX9) (T := TX9) (N := 7) hx hb hts hiX9 hown hK hP 0 rfl rfl 0 (by decide) (hts (.fieldLink RX9 22 "GhostPane$Tape" "length" "I") (List.mem_of_getElem? (i := 2) rfl)) (fun _ h9 => h9) rfl dX9_isDigit_5 ?_
  refine lv_icmp_ge (tgt := 43) hx hb dX9_isDigit_8 (by decide) (fun c_1 => ?_) (fun c_1 => ?_)
  · refine lv_iconst (v := 0) hx hb dX9_isDigit_43 (by decide) ?_
    exact W.zret (v := 0) hx hb hr narrow_b0 (fun t ht hW => ⟨⟨0, (), rfl, ⟨(show (0 : Int32) = 0 ∨ (0 : Int32) = 1 by decide), (lf_sX9_isDigit2_1 tape_length tape_at f_tape_length f_tape_at c_1)⟩, gp_end ht hP hD⟩, hS.F ht⟩) hS.2.2 dX9_isDigit_44
  · refine lv_aload_n hx hb dX9_isDigit_11 rfl (lv_at hl 0 rfl) ?_
    refine va_get (D := D) (ci := 9) (v := .ref (xa 2)) (C := RX9) (T := TX9) (N := 7) hx hb hts hiX9 hown hK hP 0 rfl rfl 6 (by decide) (hts (.fieldLink RX9 18 "GhostPane$Tape" "bytes" "[B") (List.mem_of_getElem? (i := 3) rfl)) (fun _ h9 => h9) rfl dX9_isDigit_12 ?_
    refine lv_aload_n hx hb dX9_isDigit_15 rfl (lv_at hl 0 rfl) ?_
    refine va_get (D := D) (ci := 9) (v := .int tape_at) (C := RX9) (T := TX9) (N := 7) hx hb hts hiX9 hown hK hP 0 rfl rfl 5 (by decide) (hts (.fieldLink RX9 25 "GhostPane$Tape" "at" "I") (List.mem_of_getElem? (i := 1) rfl)) (fun _ h9 => h9) rfl dX9_isDigit_16 ?_
    refine va_bald hx hb hK hP 1 0 rfl rfl (gp_in (hi := 599) (lf_sX9_isDigit2_2 tape_length tape_at f_tape_length f_tape_at c_1) (by decide)) dX9_isDigit_19 ?_
    refine gp_fi (fun y_2 => ?_)
    refine lv_bipush (v := 48) hx hb dX9_isDigit_20 (by decide) ?_
    refine lv_icmp_lt (tgt := 43) hx hb dX9_isDigit_22 (by decide) (fun c_3 => ?_) (fun c_3 => ?_)
    · refine lv_iconst (v := 0) hx hb dX9_isDigit_43 (by decide) ?_
      exact W.zret (v := 0) hx hb hr narrow_b0 (fun t ht hW => ⟨⟨0, (), rfl, ⟨(show (0 : Int32) = 0 ∨ (0 : Int32) = 1 by decide), (lf_sX9_isDigit2_3 tape_length tape_at f_tape_length f_tape_at c_1)⟩, gp_end ht hP hD⟩, hS.F ht⟩) hS.2.2 dX9_isDigit_44
    · refine lv_aload_n hx hb dX9_isDigit_25 rfl (lv_at hl 0 rfl) ?_
      refine va_get (D := D) (ci := 9) (v := .ref (xa 2)) (C := RX9) (T := TX9) (N := 7) hx hb hts hiX9 hown hK hP 0 rfl rfl 6 (by decide) (hts (.fieldLink RX9 18 "GhostPane$Tape" "bytes" "[B") (List.mem_of_getElem? (i := 3) rfl)) (fun _ h9 => h9) rfl dX9_isDigit_26 ?_
      refine lv_aload_n hx hb dX9_isDigit_29 rfl (lv_at hl 0 rfl) ?_
      refine va_get (D := D) (ci := 9) (v := .int tape_at) (C := RX9) (T := TX9) (N := 7) hx hb hts hiX9 hown hK hP 0 rfl rfl 5 (by decide) (hts (.fieldLink RX9 25 "GhostPane$Tape" "at" "I") (List.mem_of_getElem? (i := 1) rfl)) (fun _ h9 => h9) rfl dX9_isDigit_30 ?_
      refine va_bald hx hb hK hP 1 0 rfl rfl (gp_in (hi := 599) (lf_sX9_isDigit2_4 tape_length tape_at f_tape_length f_tape_at c_1) (by decide)) dX9_isDigit_33 ?_
      refine gp_fi (fun y_4 => ?_)
      refine lv_bipush (v := 57) hx hb dX9_isDigit_34 (by decide) ?_
      refine lv_icmp_gt (tgt := 43) hx hb dX9_isDigit_36 (by decide) (fun c_5 => ?_) (fun c_5 => ?_)
      · refine lv_iconst (v := 0) hx hb dX9_isDigit_43 (by decide) ?_
        exact W.zret (v := 0) hx hb hr narrow_b0 (fun t ht hW => ⟨⟨0, (), rfl, ⟨(show (0 : Int32) = 0 ∨ (0 : Int32) = 1 by decide), (lf_sX9_isDigit2_5 tape_length tape_at f_tape_length f_tape_at c_1)⟩, gp_end ht hP hD⟩, hS.F ht⟩) hS.2.2 dX9_isDigit_44
      · refine lv_iconst (v := 1) hx hb dX9_isDigit_39 (by decide) ?_
        refine lv_goto (tgt := 44) hx hb dX9_isDigit_40 (by decide) ?_
        exact W.zret (v := 1) hx hb hr narrow_b1 (fun t ht hW => ⟨⟨1, (), rfl, ⟨(show (1 : Int32) = 0 ∨ (1 : Int32) = 1 by decide), (lf_sX9_isDigit2_6 tape_length tape_at f_tape_length f_tape_at c_1)⟩, gp_end ht hP hD⟩, hS.F ht⟩) hS.2.2 dX9_isDigit_44

def v_sX9_isSameWord : List Cond := .code yX9_isSameWord cX9_isSameWord 4 (some .boolean) :: (([.fieldLink RX9 46 "GhostPane$Tape" "wordTo" "I", .fieldLink RX9 39 "GhostPane$Tape" "wordFrom" "I", .fieldLink RX9 18 "GhostPane$Tape" "bytes" "[B"] : List Cond) ++ wsX90)
set_option maxHeartbeats 4000000 in
set_option maxRecDepth 100000 in
theorem sX9_isSameWord (l : Launch) (D : va_G) (cy : Nat → ClassId) (sz : Nat) (xa : Nat → Nat) (tape_length : Int32) (tape_fault : Int32) (tape_faultPlace : Int32) (tape_wordFrom : Int32) (tape_wordTo : Int32) (tape_at : Int32) (bytes : Nat → Int32) (wf : Int32) (wt : Int32) (f_tape_length : sp_in tape_length 0 600) (f_tape_wordFrom : sp_in tape_wordFrom 0 600) (f_tape_wordTo : sp_in tape_wordTo 0 600) (f_tape_at : sp_in tape_at 0 600) (q0 : sp_in wf 0 600) (q1 : sp_in wt 0 600) : Met l yX9_isSameWord v_sX9_isSameWord ({ frames := 0, cells := 0, slots := 0, locals := 0 } : Room) (va_Pc [.ref (xa 1), .int wf, .int wt] (gp_B D cy sz [(o_tape xa tape_length tape_fault tape_faultPlace tape_wordFrom tape_wordTo tape_at), (aI (xa 2) (cy 0) 600 bytes)])) (va_Qi (fun (r : Int32) (u : Unit) => (r = 0 ∨ r = 1)) (fun u => gp_E D (va_A [(o_tape xa tape_length tape_fault tape_faultPlace tape_wordFrom tape_wordTo tape_at), (aI (xa 2) (cy 0) 600 bytes)] sz) [(o_tape xa tape_length tape_fault tape_faultPlace tape_wordFrom tape_wordTo tape_at), (aI (xa 2) (cy 0) 600 bytes)]) (va_A [(o_tape xa tape_length tape_fault tape_faultPlace tape_wordFrom tape_wordTo tape_at), (aI (xa 2) (cy 0) 600 bytes)] sz)) 0 0 (va_A [(o_tape xa tape_length tape_fault tape_faultPlace tape_wordFrom tape_wordTo tape_at), (aI (xa 2) (cy 0) 600 bytes)] sz) := by
  refine gp_met (Qc := fun A => va_Qi (fun (r : Int32) (u : Unit) => (r = 0 ∨ r = 1)) (fun u => gp_E D A [(o_tape xa tape_length tape_fault tape_faultPlace tape_wordFrom tape_wordTo tape_at), (aI (xa 2) (cy 0) 600 bytes)]) A) (cc := cX9_isSameWord) (maxL := 4) (ret := (some .boolean)) (by decide) rfl (Nat.le_of_ble_eq_true rfl) ?_
  intro p e s m below meth c A ls H hx hb hml hr hlocks hts hown hin hK hN hS hP hD hA hl
  have hown : s.vm.findClass RX9 = some m.cls := hown
  have hl : lv_has ls 4 [(0, .ref (xa 1)), (1, .int wf), (2, .int wt)] := hl
  have hiX9 : ∀ w ∈ u_ws RX9 TX9 7, w ∈ v_sX9_isSameWord := fun _ h => List.mem_cons_of_mem _ (List.mem_append_right _ h)
  refine lv_iload_n hx hb dX9_isSameWord_0 rfl (lv_at hl 2 rfl) ?_
  refine lv_iload_n hx hb dX9_isSameWord_1 rfl (lv_at hl 1 rfl) ?_
  refine lv_isub hx hb dX9_isSameWord_2 ?_
  refine lv_aload_n hx hb dX9_isSameWord_3 rfl (lv_at hl 0 rfl) ?_
  refine va_get (D := D) (ci := 9) (v := .int tape_wordTo) (C := RX9) (T := TX9) (N := 7) hx hb hts hiX9 hown hK hP 0 rfl rfl 4 (by decide) (hts (.fieldLink RX9 46 "GhostPane$Tape" "wordTo" "I") (List.mem_of_getElem? (i := 1) rfl)) (fun _ h9 => h9) rfl dX9_isSameWord_4 ?_
  refine lv_aload_n hx hb dX9_isSameWord_7 rfl (lv_at hl 0 rfl) ?_
  refine va_get (D := D) (ci := 9) (v := .int tape_wordFrom) (C := RX9) (T := TX9) (N := 7) hx hb hts hiX9 hown hK hP 0 rfl rfl 3 (by decide) (hts (.fieldLink RX9 39 "GhostPane$Tape" "wordFrom" "I") (List.mem_of_getElem? (i := 2) rfl)) (fun _ h9 => h9) rfl dX9_isSameWord_8 ?_
  refine lv_isub hx hb dX9_isSameWord_11 ?_
  refine lv_icmp_eq (tgt := 17) hx hb dX9_isSameWord_12 (by decide) (fun c_1 => ?_) (fun c_1 => ?_)
  · refine lv_iconst (v := 0) hx hb dX9_isSameWord_17 (by decide) ?_
    refine lv_istore_n (lv' := [(3, .int 0), (0, .ref (xa 1)), (1, .int wf), (2, .int wt)]) hx hb dX9_isSameWord_18 rfl hl (by decide) rfl (fun ls hl => ?_)
    have key19 : ∀ (fu : Nat) (ii : Int32) (H : Heap) (locs : List Loc) (ls : Array Slot), (h1 : sp_in ii 0 600) → ((wt - wf).toInt - ii.toInt).toNat < fu → va_P D vwCl [(o_tape xa tape_length tape_fault tape_faultPlace tape_wordFrom tape_wordTo tape_at), (aI (xa 2) (cy 0) 600 bytes)] H → va_D A [(o_tape xa tape_length tape_fault tape_faultPlace tape_wordFrom tape_wordTo tape_at), (aI (xa 2) (cy 0) 600 bytes)] → va_S A s.heap H locs → lv_has ls 4 [(3, .int ii), (0, .ref (xa 1)), (1, .int wf), (2, .int wt)] → W p l e (headSpec v_sX9_isSameWord (({ frames := 0, cells := 0, slots := 0, locals := 0 } : Room))).room s m [.ref (xa 1), .int wf, .int wt].toArray below meth c H locs 0 0 (MQ below (va_Qi (fun (r : Int32) (u : Unit) => (r = 0 ∨ r = 1)) (fun u => gp_E D A [(o_tape xa tape_length tape_fault tape_faultPlace tape_wordFrom tape_wordTo tape_at), (aI (xa 2) (cy 0) 600 bytes)]) A) [.ref (xa 1), .int wf, .int wt].toArray s 0 0 A) (F0 m 19 ls []) := by
      intro fu
      induction fu with
      | zero => intro ii H locs ls h1 hfu; exact absurd hfu (Nat.not_lt_zero _)
      | succ fu ih =>
        intro ii H locs ls h1 hfu hP hD hS hl
        refine lv_iload_n hx hb dX9_isSameWord_19 rfl (lv_at hl 2 rfl) ?_
        refine lv_iload_n hx hb dX9_isSameWord_20 rfl (lv_at hl 0 rfl) ?_
        refine lv_iadd hx hb dX9_isSameWord_21 ?_
        refine lv_iload_n hx hb dX9_isSameWord_22 rfl (lv_at hl 3 rfl) ?_
        refine lv_icmp_ge (tgt := 73) hx hb dX9_isSameWord_23 (by decide) (fun c_2 => ?_) (fun c_2 => ?_)
        · refine lv_iconst (v := 1) hx hb dX9_isSameWord_73 (by decide) ?_
          exact W.zret (v := 1) hx hb hr narrow_b1 (fun t ht hW => ⟨⟨1, (), rfl, (show (1 : Int32) = 0 ∨ (1 : Int32) = 1 by decide), gp_end ht hP hD⟩, hS.F ht⟩) hS.2.2 dX9_isSameWord_74
        · refine lv_iload_n hx hb dX9_isSameWord_26 rfl (lv_at hl 3 rfl) ?_
          refine lv_sipush (v := 600) hx hb dX9_isSameWord_27 (by decide) ?_
          refine lv_icmp_gt (tgt := 73) hx hb dX9_isSameWord_30 (by decide) (fun c_3 => ?_) (fun c_3 => ?_)
          · refine lv_iconst (v := 1) hx hb dX9_isSameWord_73 (by decide) ?_
            exact W.zret (v := 1) hx hb hr narrow_b1 (fun t ht hW => ⟨⟨1, (), rfl, (show (1 : Int32) = 0 ∨ (1 : Int32) = 1 by decide), gp_end ht hP hD⟩, hS.F ht⟩) hS.2.2 dX9_isSameWord_74
          · refine lv_aload_n hx hb dX9_isSameWord_33 rfl (lv_at hl 1 rfl) ?_
            refine va_get (D := D) (ci := 9) (v := .int tape_wordTo) (C := RX9) (T := TX9) (N := 7) hx hb hts hiX9 hown hK hP 0 rfl rfl 4 (by decide) (hts (.fieldLink RX9 46 "GhostPane$Tape" "wordTo" "I") (List.mem_of_getElem? (i := 1) rfl)) (fun _ h9 => h9) rfl dX9_isSameWord_34 ?_
            refine lv_sipush (v := 600) hx hb dX9_isSameWord_37 (by decide) ?_
            refine lv_icmp_gt (tgt := 73) hx hb dX9_isSameWord_40 (by decide) (fun c_4 => ?_) (fun c_4 => ?_)
            · refine lv_iconst (v := 1) hx hb dX9_isSameWord_73 (by decide) ?_
              exact W.zret (v := 1) hx hb hr narrow_b1 (fun t ht hW => ⟨⟨1, (), rfl, (show (1 : Int32) = 0 ∨ (1 : Int32) = 1 by decide), gp_end ht hP hD⟩, hS.F ht⟩) hS.2.2 dX9_isSameWord_74
            · refine lv_aload_n hx hb dX9_isSameWord_43 rfl (lv_at hl 1 rfl) ?_
              refine va_get (D := D) (ci := 9) (v := .ref (xa 2)) (C := RX9) (T := TX9) (N := 7) hx hb hts hiX9 hown hK hP 0 rfl rfl 6 (by decide) (hts (.fieldLink RX9 18 "GhostPane$Tape" "bytes" "[B") (List.mem_of_getElem? (i := 3) rfl)) (fun _ h9 => h9) rfl dX9_isSameWord_44 ?_
              refine lv_iload_n hx hb dX9_isSameWord_47 rfl (lv_at hl 2 rfl) ?_
              refine lv_iload_n hx hb dX9_isSameWord_48 rfl (lv_at hl 0 rfl) ?_
              refine lv_iadd hx hb dX9_isSameWord_49 ?_
              refine va_bald hx hb hK hP 1 0 rfl rfl (gp_in (hi := 599) (gp_sw1 f_tape_wordFrom f_tape_wordTo q0 q1 c_1 h1 c_2).1 (by decide)) dX9_isSameWord_50 ?_
              refine gp_fi (fun y_5 => ?_)
              refine lv_aload_n hx hb dX9_isSameWord_51 rfl (lv_at hl 1 rfl) ?_
              refine va_get (D := D) (ci := 9) (v := .ref (xa 2)) (C := RX9) (T := TX9) (N := 7) hx hb hts hiX9 hown hK hP 0 rfl rfl 6 (by decide) (hts (.fieldLink RX9 18 "GhostPane$Tape" "bytes" "[B") (List.mem_of_getElem? (i := 3) rfl)) (fun _ h9 => h9) rfl dX9_isSameWord_52 ?_
              refine lv_aload_n hx hb dX9_isSameWord_55 rfl (lv_at hl 1 rfl) ?_
              refine va_get (D := D) (ci := 9) (v := .int tape_wordFrom) (C := RX9) (T := TX9) (N := 7) hx hb hts hiX9 hown hK hP 0 rfl rfl 3 (by decide) (hts (.fieldLink RX9 39 "GhostPane$Tape" "wordFrom" "I") (List.mem_of_getElem? (i := 2) rfl)) (fun _ h9 => h9) rfl dX9_isSameWord_56 ?_
              refine lv_iload_n hx hb dX9_isSameWord_59 rfl (lv_at hl 0 rfl) ?_
              refine lv_iadd hx hb dX9_isSameWord_60 ?_
              refine va_bald hx hb hK hP 1 0 rfl rfl (gp_in (hi := 599) (gp_sw1 f_tape_wordFrom f_tape_wordTo q0 q1 c_1 h1 c_2).2.1 (by decide)) dX9_isSameWord_61 ?_
              refine gp_fi (fun y_6 => ?_)
              refine lv_icmp_eq (tgt := 67) hx hb dX9_isSameWord_62 (by decide) (fun c_7 => ?_) (fun c_7 => ?_)
              · refine lv_iinc (v := (ii + 1)) (lv' := [(3, .int (ii + 1)), (0, .ref (xa 1)), (1, .int wf), (2, .int wt)]) hx hb dX9_isSameWord_67 hl (k := 0) rfl rfl (by decide) rfl (fun ls hl => ?_)
                refine lv_goto (tgt := 19) hx hb dX9_isSameWord_70 (by decide) ?_
                exact ih (ii + 1) H locs ls (gp_sw1 f_tape_wordFrom f_tape_wordTo q0 q1 c_1 h1 c_2).2.2.1 (Nat.lt_of_lt_of_le (gp_mdec (gp_sw1 f_tape_wordFrom f_tape_wordTo q0 q1 c_1 h1 c_2).2.2.2) (Nat.le_of_lt_succ hfu)) hP hD hS (lv_sub hl [0, 1, 2, 3] rfl)
              · refine lv_iconst (v := 0) hx hb dX9_isSameWord_65 (by decide) ?_
                exact W.zret (v := 0) hx hb hr narrow_b0 (fun t ht hW => ⟨⟨0, (), rfl, (show (0 : Int32) = 0 ∨ (0 : Int32) = 1 by decide), gp_end ht hP hD⟩, hS.F ht⟩) hS.2.2 dX9_isSameWord_66
    exact key19 (((wt - wf).toInt - (0 : Int32).toInt).toNat + 1) 0 H [] ls (show sp_in (0 : Int32) 0 600 by decide) (Nat.lt_succ_self _) hP hD hS (lv_sub hl [0, 1, 2, 3] rfl)
  · refine lv_iconst (v := 0) hx hb dX9_isSameWord_15 (by decide) ?_
    exact W.zret (v := 0) hx hb hr narrow_b0 (fun t ht hW => ⟨⟨0, (), rfl, (show (0 : Int32) = 0 ∨ (0 : Int32) = 1 by decide), gp_end ht hP hD⟩, hS.F ht⟩) hS.2.2 dX9_isSameWord_16

theorem lf_sX9_needName_1 (tape_fault : Int32) (tape_fault_1 : Int32) (tape_fault_10 : Int32) (w_6 : tape_fault_1 = 0 → tape_fault = 0) (c_7 : tape_fault_1 = 0) (w_12 : ¬ tape_fault_10 = 0) : tape_fault_10 = 0 → tape_fault = 0 := by
  first | grind | (simp only [sp_in, sp_pl, sp_far, sp_two] at *; grind)
theorem lf_sX9_needName_2 (tape_fault : Int32) (tape_fault_1 : Int32) (tape_fault_17 : Int32) (w_6 : tape_fault_1 = 0 → tape_fault = 0) (c_7 : tape_fault_1 = 0) (w_19 : ¬ tape_fault_17 = 0) : tape_fault_17 = 0 → tape_fault = 0 := by
  first | grind | (simp only [sp_in, sp_pl, sp_far, sp_two] at *; grind)
theorem lf_sX9_needName_3 (tape_fault : Int32) (tape_fault_1 : Int32) (tape_fault_25 : Int32) (w_6 : tape_fault_1 = 0 → tape_fault = 0) (c_7 : tape_fault_1 = 0) (w_27 : ¬ tape_fault_25 = 0) : tape_fault_25 = 0 → tape_fault = 0 := by
  first | grind | (simp only [sp_in, sp_pl, sp_far, sp_two] at *; grind)
theorem lf_sX9_needName_4 (tape_fault : Int32) (tape_fault_1 : Int32) (tape_fault_32 : Int32) (w_6 : tape_fault_1 = 0 → tape_fault = 0) (c_7 : tape_fault_1 = 0) (w_34 : ¬ tape_fault_32 = 0) : tape_fault_32 = 0 → tape_fault = 0 := by
  first | grind | (simp only [sp_in, sp_pl, sp_far, sp_two] at *; grind)
theorem lf_sX9_needName_5 (ii : Int32) (h1 : sp_in ii 0 6) (c_8 : ¬ 6 ≤ ii) : sp_in (ii + 1) 0 6 := by
  first | grind | (simp only [sp_in, sp_pl, sp_far, sp_two] at *; grind)
theorem lf_sX9_needName_6 (tape_length : Int32) (tape_at : Int32) (tape_at_3 : Int32) (ta : Int32) (r_20 : Int32) (f_tape_length : sp_in tape_length 0 600) (f_tape_at : sp_in tape_at 0 600) (w_4 : sp_in tape_at_3 0 600) (w_5 : tape_at ≤ tape_at_3) (h2 : sp_in ta 0 600) (h3 : tape_at ≤ ta) (w_21 : r_20 = 0 ∨ r_20 = 1) (w_22 : r_20 = 1 → ta < tape_length) (c_23 : ¬ r_20 = 0) : sp_in (ta + 1) 0 600 := by
  first | grind | (simp only [sp_in, sp_pl, sp_far, sp_two] at *; grind)
theorem lf_sX9_needName_7 (tape_length : Int32) (tape_at : Int32) (tape_at_3 : Int32) (ta : Int32) (r_20 : Int32) (f_tape_length : sp_in tape_length 0 600) (f_tape_at : sp_in tape_at 0 600) (w_4 : sp_in tape_at_3 0 600) (w_5 : tape_at ≤ tape_at_3) (h2 : sp_in ta 0 600) (h3 : tape_at ≤ ta) (w_21 : r_20 = 0 ∨ r_20 = 1) (w_22 : r_20 = 1 → ta < tape_length) (c_23 : ¬ r_20 = 0) : tape_at ≤ (ta + 1) := by
  first | grind | (simp only [sp_in, sp_pl, sp_far, sp_two] at *; grind)
theorem lf_sX9_needName_8 (ii : Int32) (h1 : sp_in ii 0 6) (c_8 : ¬ 6 ≤ ii) : ii < 6 := by
  first | grind | (simp only [sp_in, sp_pl, sp_far, sp_two] at *; grind)
def v_sX9_needName : List Cond := .code yX9_needName cX9_needName 2 none :: (([.code yX9_skipGap cX9_skipGap 2 none, .fieldLink RX9 25 "GhostPane$Tape" "at" "I", .code yX9_skipBlanks cX9_skipBlanks 1 none, .fieldLink RX9 22 "GhostPane$Tape" "length" "I", .fieldLink RX9 18 "GhostPane$Tape" "bytes" "[B", .methodLink RX9 28 yX9_skipBlanks, .instanceMethod yX9_skipBlanks, .selects RX9 yX9_skipBlanks yX9_skipBlanks, .initialized RX9, .code yX9_fail cX9_fail 3 none, .fieldLink RX9 9 "GhostPane$Tape" "fault" "I", .fieldLink RX9 15 "GhostPane$Tape" "faultPlace" "I", .methodLink RX9 31 yX9_fail, .instanceMethod yX9_fail, .selects RX9 yX9_fail yX9_fail, .methodLink RX9 58 yX9_skipGap, .instanceMethod yX9_skipGap, .selects RX9 yX9_skipGap yX9_skipGap, .fieldLink RX9 39 "GhostPane$Tape" "wordFrom" "I", .fieldLink RX9 46 "GhostPane$Tape" "wordTo" "I", .code yX9_isLetter cX9_isLetter 2 (some .boolean), .methodLink RX9 42 yX9_isLetter, .instanceMethod yX9_isLetter, .selects RX9 yX9_isLetter yX9_isLetter] : List Cond) ++ wsX90)
set_option maxRecDepth 20000 in
theorem gg_sX9_needName_sX9_skipGap : GoodIn v_sX9_needName v_sX9_skipGap := goodIn_ca (goodIn_r (.code yX9_skipGap cX9_skipGap 2 none :: [.fieldLink RX9 25 "GhostPane$Tape" "at" "I", .code yX9_skipBlanks cX9_skipBlanks 1 none, .fieldLink RX9 22 "GhostPane$Tape" "length" "I", .fieldLink RX9 18 "GhostPane$Tape" "bytes" "[B", .methodLink RX9 28 yX9_skipBlanks, .instanceMethod yX9_skipBlanks, .selects RX9 yX9_skipBlanks yX9_skipBlanks, .initialized RX9, .code yX9_fail cX9_fail 3 none, .fieldLink RX9 9 "GhostPane$Tape" "fault" "I", .fieldLink RX9 15 "GhostPane$Tape" "faultPlace" "I", .methodLink RX9 31 yX9_fail, .instanceMethod yX9_fail, .selects RX9 yX9_fail yX9_fail]) [1, 2, 3, 4, 5, 6, 7, 8, 9, 10, 11, 12, 13, 14, 15] (by first | rfl | decide +kernel) (by decide +kernel)) (goodIn_sub (fun _ h => List.mem_cons_of_mem _ (List.mem_append_right _ h)) gwX9)
set_option maxRecDepth 20000 in
theorem g_sX9_needName_sX9_skipGap_0 : GoodIn v_sX9_needName (wsV RX9 58 RX9 yX9_skipGap v_sX9_skipGap) := goodIn_app (goodIn_r [.methodLink RX9 58 yX9_skipGap, .instanceMethod yX9_skipGap, .selects RX9 yX9_skipGap yX9_skipGap, .initialized RX9] [16, 17, 18, 9] rfl (by decide +kernel)) gg_sX9_needName_sX9_skipGap
set_option maxRecDepth 20000 in
theorem gg_sX9_needName_sX9_fail : GoodIn v_sX9_needName v_sX9_fail := goodIn_ca (goodIn_r (.code yX9_fail cX9_fail 3 none :: [.fieldLink RX9 9 "GhostPane$Tape" "fault" "I", .fieldLink RX9 15 "GhostPane$Tape" "faultPlace" "I"]) [10, 11, 12] (by first | rfl | decide +kernel) (by decide +kernel)) (goodIn_sub (fun _ h => List.mem_cons_of_mem _ (List.mem_append_right _ h)) gwX9)
set_option maxRecDepth 20000 in
theorem g_sX9_needName_sX9_fail_1 : GoodIn v_sX9_needName (wsV RX9 31 RX9 yX9_fail v_sX9_fail) := goodIn_app (goodIn_r [.methodLink RX9 31 yX9_fail, .instanceMethod yX9_fail, .selects RX9 yX9_fail yX9_fail, .initialized RX9] [13, 14, 15, 9] rfl (by decide +kernel)) gg_sX9_needName_sX9_fail
set_option maxRecDepth 20000 in
theorem gg_sX9_needName_sX9_isLetter2 : GoodIn v_sX9_needName v_sX9_isLetter2 := goodIn_ca (goodIn_r (.code yX9_isLetter cX9_isLetter 2 (some .boolean) :: [.fieldLink RX9 25 "GhostPane$Tape" "at" "I", .fieldLink RX9 22 "GhostPane$Tape" "length" "I", .fieldLink RX9 18 "GhostPane$Tape" "bytes" "[B"]) [21, 2, 4, 5] (by first | rfl | decide +kernel) (by decide +kernel)) (goodIn_sub (fun _ h => List.mem_cons_of_mem _ (List.mem_append_right _ h)) gwX9)
set_option maxRecDepth 20000 in
theorem g_sX9_needName_sX9_isLetter2_2 : GoodIn v_sX9_needName (wsV RX9 42 RX9 yX9_isLetter v_sX9_isLetter2) := goodIn_app (goodIn_r [.methodLink RX9 42 yX9_isLetter, .instanceMethod yX9_isLetter, .selects RX9 yX9_isLetter yX9_isLetter, .initialized RX9] [22, 23, 24, 9] rfl (by decide +kernel)) gg_sX9_needName_sX9_isLetter2
set_option maxHeartbeats 4000000 in
set_option maxRecDepth 100000 in
theorem sX9_needName (l : Launch) (D : va_G) (cy : Nat → ClassId) (sz : Nat) (xa : Nat → Nat) (tape_length : Int32) (tape_fault : Int32) (tape_faultPlace : Int32) (tape_wordFrom : Int32) (tape_wordTo : Int32) (tape_at : Int32) (bytes : Nat → Int32) (f_tape_length : sp_in tape_length 0 600) (f_tape_wordFrom : sp_in tape_wordFrom 0 600) (f_tape_wordTo : sp_in tape_wordTo 0 600) (f_tape_at : sp_in tape_at 0 600) : Met l yX9_needName v_sX9_needName ({ frames := 2, cells := 0, slots := 0, locals := 43 } : Room) (va_Pc [.ref (xa 1)] (gp_B D cy sz [(o_tape xa tape_length tape_fault tape_faultPlace tape_wordFrom tape_wordTo tape_at), (aI (xa 2) (cy 0) 600 bytes)])) (va_Qv (fun (u : (Int32) × (Int32) × (Int32) × (Int32) × (Int32)) => (sp_in u.2.2.1 0 600) ∧ (sp_in u.2.2.2.1 0 600) ∧ (sp_in u.2.2.2.2 0 600) ∧ (tape_at ≤ u.2.2.2.2) ∧ (u.1 = 0 → tape_fault = 0)) (fun u => gp_E D (va_A [(o_tape xa tape_length tape_fault tape_faultPlace tape_wordFrom tape_wordTo tape_at), (aI (xa 2) (cy 0) 600 bytes)] sz) [(o_tape xa tape_length u.1 u.2.1 u.2.2.1 u.2.2.2.1 u.2.2.2.2), (aI (xa 2) (cy 0) 600 bytes)]) (va_A [(o_tape xa tape_length tape_fault tape_faultPlace tape_wordFrom tape_wordTo tape_at), (aI (xa 2) (cy 0) 600 bytes)] sz)) 0 0 (va_A [(o_tape xa tape_length tape_fault tape_faultPlace tape_wordFrom tape_wordTo tape_at), (aI (xa 2) (cy 0) 600 bytes)] sz) := by
  refine gp_met (Qc := fun A => va_Qv (fun (u : (Int32) × (Int32) × (Int32) × (Int32) × (Int32)) => (sp_in u.2.2.1 0 600) ∧ (sp_in u.2.2.2.1 0 600) ∧ (sp_in u.2.2.2.2 0 600) ∧ (tape_at ≤ u.2.2.2.2) ∧ (u.1 = 0 → tape_fault = 0)) (fun u => gp_E D A [(o_tape xa tape_length u.1 u.2.1 u.2.2.1 u.2.2.2.1 u.2.2.2.2), (aI (xa 2) (cy 0) 600 bytes)]) A) (cc := cX9_needName) (maxL := 2) (ret := none) (by decide) rfl (Nat.le_of_ble_eq_true rfl) ?_
  intro p e s m below meth c A ls H hx hb hml hr hlocks hts hown hin hK hN hS hP hD hA hl
  have hown : s.vm.findClass RX9 = some m.cls := hown
  have hl : lv_has ls 2 [(0, .ref (xa 1))] := hl
  have hiX9 : ∀ w ∈ u_ws RX9 TX9 7, w ∈ v_sX9_needName := fun _ h => List.mem_cons_of_mem _ (List.mem_append_right _ h)
  refine lv_aload_n hx hb dX9_needName_0 rfl (lv_at hl 0 rfl) ?_
  have hPc := hP.sub (ws' := [(o_tape xa tape_length tape_fault tape_faultPlace tape_wordFrom tape_wordTo tape_at), (aI (xa 2) (cy 0) 600 bytes)]) [0, 1] rfl
  have hDc := hD.sub (ws' := [(o_tape xa tape_length tape_fault tape_faultPlace tape_wordFrom tape_wordTo tape_at), (aI (xa 2) (cy 0) 600 bytes)]) [0, 1] (by decide) rfl
  have hFc := va_free (wc := [(o_tape xa tape_length tape_fault tape_faultPlace tape_wordFrom tape_wordTo tape_at), (aI (xa 2) (cy 0) 600 bytes)]) hD hS hA [0, 1] rfl
  refine va_callv (va_runV (As := []) (rest := []) ⟨hx, hb, hml, hown, hts⟩ (sX9_skipGap l D cy H.size xa tape_length tape_fault tape_faultPlace tape_wordFrom tape_wordTo tape_at bytes f_tape_length f_tape_wordFrom f_tape_wordTo f_tape_at) (cwV 0 hts g_sX9_needName_sX9_skipGap_0 rfl rfl rfl (by decide +kernel) ⟨Nat.le_of_ble_eq_true rfl, Nat.le_of_ble_eq_true rfl⟩) (gp_preV (RX9, TX9, 7) 9 0 hPc hDc hK hN rfl rfl) rfl rfl hl.1 rfl (lv_room (Nat.le_of_ble_eq_true rfl)) dX9_needName_1 ⟨Nat.le_of_ble_eq_true rfl, Nat.le_of_ble_eq_true rfl⟩) hS (fun q _ h => hFc q h) hFc (fun u t H locs ht hvm hw hB hz1 hk1 hS => ?_)
  obtain ⟨tape_fault_1, tape_faultPlace_2, tape_at_3⟩ := u
  obtain ⟨hP, hD⟩ := gp_joinS (wc := [(o_tape xa tape_length tape_fault tape_faultPlace tape_wordFrom tape_wordTo tape_at), (aI (xa 2) (cy 0) 600 bytes)]) (w1 := [(o_tape xa tape_length tape_fault_1 tape_faultPlace_2 tape_wordFrom tape_wordTo tape_at_3), (aI (xa 2) (cy 0) 600 bytes)]) hP hD [0, 1] rfl rfl hk1 ht hB
  obtain ⟨w_4, w_5, w_6⟩ := hw
  have hP : va_P D vwCl [(o_tape xa tape_length tape_fault_1 tape_faultPlace_2 tape_wordFrom tape_wordTo tape_at_3), (aI (xa 2) (cy 0) 600 bytes)] H := hP
  have hD := gp_sD hP hD
  refine lv_aload_n hx hb dX9_needName_4 rfl (lv_at hl 0 rfl) ?_
  refine va_get (D := D) (ci := 9) (v := .int tape_fault_1) (C := RX9) (T := TX9) (N := 7) hx hb hts hiX9 hown hK hP 0 rfl rfl 1 (by decide) (hts (.fieldLink RX9 9 "GhostPane$Tape" "fault" "I") (List.mem_of_getElem? (i := 11) rfl)) (fun _ h9 => h9) rfl dX9_needName_5 ?_
  refine lv_if_ne (tgt := 85) hx hb dX9_needName_8 (by decide) (fun c_7 => ?_) (fun c_7 => ?_)
  · exact W.vret hx hb hr (fun t ht hW => ⟨⟨⟨tape_fault_1, tape_faultPlace_2, tape_wordFrom, tape_wordTo, tape_at_3⟩, rfl, ⟨f_tape_wordFrom, f_tape_wordTo, w_4, w_5, w_6⟩, gp_end ht hP hD⟩, hS.F ht⟩) hS.2.2 dX9_needName_85
  · refine lv_aload_n hx hb dX9_needName_11 rfl (lv_at hl 0 rfl) ?_
    refine lv_aload_n hx hb dX9_needName_12 rfl (lv_at hl 0 rfl) ?_
    refine va_get (D := D) (ci := 9) (v := .int tape_at_3) (C := RX9) (T := TX9) (N := 7) hx hb hts hiX9 hown hK hP 0 rfl rfl 5 (by decide) (hts (.fieldLink RX9 25 "GhostPane$Tape" "at" "I") (List.mem_of_getElem? (i := 2) rfl)) (fun _ h9 => h9) rfl dX9_needName_13 ?_
    refine va_put (D := D) (ci := 9) (v := .int tape_at_3) (ty := .int) (C := RX9) (T := TX9) (N := 7) hx hb hts hiX9 tyX9 tyX9_ok nmX9 hown hK hP hD hS 0 rfl rfl 3 (by decide) (hts (.fieldLink RX9 39 "GhostPane$Tape" "wordFrom" "I") (List.mem_of_getElem? (i := 19) rfl)) (fun _ h9 => h9) rfl (by decide +kernel) rfl rfl (Nat.le_of_ble_eq_true rfl) dX9_needName_16 (fun H locs hP hD hS => ?_)
    have hP : va_P D vwCl [(o_tape xa tape_length tape_fault_1 tape_faultPlace_2 tape_at_3 tape_wordTo tape_at_3), (aI (xa 2) (cy 0) 600 bytes)] H := hP
    have hD := gp_sD hP hD
    refine lv_iconst (v := 0) hx hb dX9_needName_19 (by decide) ?_
    refine lv_istore_n (lv' := [(1, .int 0), (0, .ref (xa 1))]) hx hb dX9_needName_20 rfl hl (by decide) rfl (fun ls hl => ?_)
    have key21 : ∀ (fu : Nat) (ii : Int32) (ta : Int32) (H : Heap) (locs : List Loc) (ls : Array Slot), (h1 : sp_in ii 0 6) → (h2 : sp_in ta 0 600) → (h3 : tape_at ≤ ta) → (6 - ii.toInt).toNat < fu → va_P D vwCl [(o_tape xa tape_length tape_fault_1 tape_faultPlace_2 tape_at_3 tape_wordTo ta), (aI (xa 2) (cy 0) 600 bytes)] H → va_D A [(o_tape xa tape_length tape_fault_1 tape_faultPlace_2 tape_at_3 tape_wordTo ta), (aI (xa 2) (cy 0) 600 bytes)] → va_S A s.heap H locs → lv_has ls 2 [(1, .int ii), (0, .ref (xa 1))] → W p l e (headSpec v_sX9_needName (({ frames := 2, cells := 0, slots := 0, locals := 43 } : Room))).room s m [.ref (xa 1)].toArray below meth c H locs 0 0 (MQ below (va_Qv (fun (u : (Int32) × (Int32) × (Int32) × (Int32) × (Int32)) => (sp_in u.2.2.1 0 600) ∧ (sp_in u.2.2.2.1 0 600) ∧ (sp_in u.2.2.2.2 0 600) ∧ (tape_at ≤ u.2.2.2.2) ∧ (u.1 = 0 → tape_fault = 0)) (fun u => gp_E D A [(o_tape xa tape_length u.1 u.2.1 u.2.2.1 u.2.2.2.1 u.2.2.2.2), (aI (xa 2) (cy 0) 600 bytes)]) A) [.ref (xa 1)].toArray s 0 0 A) (F0 m 21 ls []) := by
      intro fu
      induction fu with
      | zero => intro ii ta H locs ls h1 h2 h3 hfu; exact absurd hfu (Nat.not_lt_zero _)
      | succ fu ih =>
        intro ii ta H locs ls h1 h2 h3 hfu hP hD hS hl
        refine lv_iload_n hx hb dX9_needName_21 rfl (lv_at hl 0 rfl) ?_
        refine lv_bipush (v := 6) hx hb dX9_needName_22 (by decide) ?_
        refine lv_icmp_ge (tgt := 50) hx hb dX9_needName_24 (by decide) (fun c_8 => ?_) (fun c_8 => ?_)
        · refine lv_aload_n hx hb dX9_needName_50 rfl (lv_at hl 1 rfl) ?_
          refine lv_aload_n hx hb dX9_needName_51 rfl (lv_at hl 1 rfl) ?_
          refine va_get (D := D) (ci := 9) (v := .int ta) (C := RX9) (T := TX9) (N := 7) hx hb hts hiX9 hown hK hP 0 rfl rfl 5 (by decide) (hts (.fieldLink RX9 25 "GhostPane$Tape" "at" "I") (List.mem_of_getElem? (i := 2) rfl)) (fun _ h9 => h9) rfl dX9_needName_52 ?_
          refine va_put (D := D) (ci := 9) (v := .int ta) (ty := .int) (C := RX9) (T := TX9) (N := 7) hx hb hts hiX9 tyX9 tyX9_ok nmX9 hown hK hP hD hS 0 rfl rfl 4 (by decide) (hts (.fieldLink RX9 46 "GhostPane$Tape" "wordTo" "I") (List.mem_of_getElem? (i := 20) rfl)) (fun _ h9 => h9) rfl (by decide +kernel) rfl rfl (Nat.le_of_ble_eq_true rfl) dX9_needName_55 (fun H locs hP hD hS => ?_)
          have hP : va_P D vwCl [(o_tape xa tape_length tape_fault_1 tape_faultPlace_2 tape_at_3 ta ta), (aI (xa 2) (cy 0) 600 bytes)] H := hP
          have hD := gp_sD hP hD
          refine lv_aload_n hx hb dX9_needName_58 rfl (lv_at hl 1 rfl) ?_
          refine va_get (D := D) (ci := 9) (v := .int ta) (C := RX9) (T := TX9) (N := 7) hx hb hts hiX9 hown hK hP 0 rfl rfl 4 (by decide) (hts (.fieldLink RX9 46 "GhostPane$Tape" "wordTo" "I") (List.mem_of_getElem? (i := 20) rfl)) (fun _ h9 => h9) rfl dX9_needName_59 ?_
          refine lv_aload_n hx hb dX9_needName_62 rfl (lv_at hl 1 rfl) ?_
          refine va_get (D := D) (ci := 9) (v := .int tape_at_3) (C := RX9) (T := TX9) (N := 7) hx hb hts hiX9 hown hK hP 0 rfl rfl 3 (by decide) (hts (.fieldLink RX9 39 "GhostPane$Tape" "wordFrom" "I") (List.mem_of_getElem? (i := 19) rfl)) (fun _ h9 => h9) rfl dX9_needName_63 ?_
          refine lv_icmp_eq (tgt := 76) hx hb dX9_needName_66 (by decide) (fun c_9 => ?_) (fun c_9 => ?_)
          · refine lv_aload_n hx hb dX9_needName_76 rfl (lv_at hl 1 rfl) ?_
            refine lv_iconst (v := 1) hx hb dX9_needName_77 (by decide) ?_
            refine lv_aload_n hx hb dX9_needName_78 rfl (lv_at hl 1 rfl) ?_
            refine va_get (D := D) (ci := 9) (v := .int ta) (C := RX9) (T := TX9) (N := 7) hx hb hts hiX9 hown hK hP 0 rfl rfl 5 (by decide) (hts (.fieldLink RX9 25 "GhostPane$Tape" "at" "I") (List.mem_of_getElem? (i := 2) rfl)) (fun _ h9 => h9) rfl dX9_needName_79 ?_
            have hPc := hP.sub (ws' := [(o_tape xa tape_length tape_fault_1 tape_faultPlace_2 tape_at_3 ta ta)]) [0] rfl
            have hDc := hD.sub (ws' := [(o_tape xa tape_length tape_fault_1 tape_faultPlace_2 tape_at_3 ta ta)]) [0] (by decide) rfl
            have hFc := va_free (wc := [(o_tape xa tape_length tape_fault_1 tape_faultPlace_2 tape_at_3 ta ta)]) hD hS hA [0] rfl
            refine va_callv (va_runV (As := [.int 1, .int ta]) (rest := []) ⟨hx, hb, hml, hown, hts⟩ (sX9_fail l D cy H.size xa tape_length tape_fault_1 tape_faultPlace_2 tape_at_3 ta ta 1 ta f_tape_length w_4 h2 h2 (show ¬ 1 = 0 by decide)) (cwV 2 hts g_sX9_needName_sX9_fail_1 rfl rfl rfl (by decide +kernel) ⟨Nat.le_of_ble_eq_true rfl, Nat.le_of_ble_eq_true rfl⟩) (gp_preV (RX9, TX9, 7) 9 0 hPc hDc hK hN rfl rfl) rfl rfl hl.1 rfl (lv_room (Nat.le_of_ble_eq_true rfl)) dX9_needName_82 ⟨Nat.le_of_ble_eq_true rfl, Nat.le_of_ble_eq_true rfl⟩) hS (fun q _ h => hFc q h) hFc (fun u t H locs ht hvm hw hB hz1 hk1 hS => ?_)
            obtain ⟨tape_fault_10, tape_faultPlace_11⟩ := u
            obtain ⟨hP, hD⟩ := gp_joinS (wc := [(o_tape xa tape_length tape_fault_1 tape_faultPlace_2 tape_at_3 ta ta)]) (w1 := [(o_tape xa tape_length tape_fault_10 tape_faultPlace_11 tape_at_3 ta ta)]) hP hD [0] rfl rfl hk1 ht hB
            have w_12 := hw
            have hP : va_P D vwCl [(o_tape xa tape_length tape_fault_10 tape_faultPlace_11 tape_at_3 ta ta), (aI (xa 2) (cy 0) 600 bytes)] H := hP
            have hD := gp_sD hP hD
            exact W.vret hx hb hr (fun t ht hW => ⟨⟨⟨tape_fault_10, tape_faultPlace_11, tape_at_3, ta, ta⟩, rfl, ⟨w_4, h2, h2, h3, (lf_sX9_needName_1 tape_fault tape_fault_1 tape_fault_10 w_6 c_7 w_12)⟩, gp_end ht hP hD⟩, hS.F ht⟩) hS.2.2 dX9_needName_85
          · refine lv_aload_n hx hb dX9_needName_69 rfl (lv_at hl 1 rfl) ?_
            have hPc := hP.sub (ws' := [(o_tape xa tape_length tape_fault_1 tape_faultPlace_2 tape_at_3 ta ta), (aI (xa 2) (cy 0) 600 bytes)]) [0, 1] rfl
            have hDc := hD.sub (ws' := [(o_tape xa tape_length tape_fault_1 tape_faultPlace_2 tape_at_3 ta ta), (aI (xa 2) (cy 0) 600 bytes)]) [0, 1] (by decide) rfl
            have hFc := va_free (wc := [(o_tape xa tape_length tape_fault_1 tape_faultPlace_2 tape_at_3 ta ta), (aI (xa 2) (cy 0) 600 bytes)]) hD hS hA [0, 1] rfl
            refine va_calli (va_runV (As := []) (rest := []) ⟨hx, hb, hml, hown, hts⟩ (sX9_isLetter2 l D cy H.size xa tape_length tape_fault_1 tape_faultPlace_2 tape_at_3 ta ta bytes f_tape_length w_4 h2 h2) (cwV 0 hts g_sX9_needName_sX9_isLetter2_2 rfl rfl rfl (by decide +kernel) ⟨Nat.le_of_ble_eq_true rfl, Nat.le_of_ble_eq_true rfl⟩) (gp_preV (RX9, TX9, 7) 9 0 hPc hDc hK hN rfl rfl) rfl rfl hl.1 rfl (lv_room (Nat.le_of_ble_eq_true rfl)) dX9_needName_70 ⟨Nat.le_of_ble_eq_true rfl, Nat.le_of_ble_eq_true rfl⟩) hS (fun q _ h => hFc q h) hFc (fun r_13 u t H locs ht hvm hw hB hz1 hk1 hS => ?_)
            have hP := gp_joinU (wc := [(o_tape xa tape_length tape_fault_1 tape_faultPlace_2 tape_at_3 ta ta), (aI (xa 2) (cy 0) 600 bytes)]) hP hD [0, 1] rfl hk1 ht hB
            obtain ⟨w_14, w_15⟩ := hw
            refine lv_if_eq (tgt := 85) hx hb dX9_needName_73 (by decide) (fun c_16 => ?_) (fun c_16 => ?_)
            · exact W.vret hx hb hr (fun t ht hW => ⟨⟨⟨tape_fault_1, tape_faultPlace_2, tape_at_3, ta, ta⟩, rfl, ⟨w_4, h2, h2, h3, w_6⟩, gp_end ht hP hD⟩, hS.F ht⟩) hS.2.2 dX9_needName_85
            · refine lv_aload_n hx hb dX9_needName_76 rfl (lv_at hl 1 rfl) ?_
              refine lv_iconst (v := 1) hx hb dX9_needName_77 (by decide) ?_
              refine lv_aload_n hx hb dX9_needName_78 rfl (lv_at hl 1 rfl) ?_
              refine va_get (D := D) (ci := 9) (v := .int ta) (C := RX9) (T := TX9) (N := 7) hx hb hts hiX9 hown hK hP 0 rfl rfl 5 (by decide) (hts (.fieldLink RX9 25 "GhostPane$Tape" "at" "I") (List.mem_of_getElem? (i := 2) rfl)) (fun _ h9 => h9) rfl dX9_needName_79 ?_
              have hPc := hP.sub (ws' := [(o_tape xa tape_length tape_fault_1 tape_faultPlace_2 tape_at_3 ta ta)]) [0] rfl
              have hDc := hD.sub (ws' := [(o_tape xa tape_length tape_fault_1 tape_faultPlace_2 tape_at_3 ta ta)]) [0] (by decide) rfl
              have hFc := va_free (wc := [(o_tape xa tape_length tape_fault_1 tape_faultPlace_2 tape_at_3 ta ta)]) hD hS hA [0] rfl
              refine va_callv (va_runV (As := [.int 1, .int ta]) (rest := []) ⟨hx, hb, hml, hown, hts⟩ (sX9_fail l D cy H.size xa tape_length tape_fault_1 tape_faultPlace_2 tape_at_3 ta ta 1 ta f_tape_length w_4 h2 h2 (show ¬ 1 = 0 by decide)) (cwV 2 hts g_sX9_needName_sX9_fail_1 rfl rfl rfl (by decide +kernel) ⟨Nat.le_of_ble_eq_true rfl, Nat.le_of_ble_eq_true rfl⟩) (gp_preV (RX9, TX9, 7) 9 0 hPc hDc hK hN rfl rfl) rfl rfl hl.1 rfl (lv_room (Nat.le_of_ble_eq_true rfl)) dX9_needName_82 ⟨Nat.le_of_ble_eq_true rfl, Nat.le_of_ble_eq_true rfl⟩) hS (fun q _ h => hFc q h) hFc (fun u t H locs ht hvm hw hB hz1 hk1 hS => ?_)
              obtain ⟨tape_fault_17, tape_faultPlace_18⟩ := u
              obtain ⟨hP, hD⟩ := gp_joinS (wc := [(o_tape xa tape_length tape_fault_1 tape_faultPlace_2 tape_at_3 ta ta)]) (w1 := [(o_tape xa tape_length tape_fault_17 tape_faultPlace_18 tape_at_3 ta ta)]) hP hD [0] rfl rfl hk1 ht hB
              have w_19 := hw
              have hP : va_P D vwCl [(o_tape xa tape_length tape_fault_17 tape_faultPlace_18 tape_at_3 ta ta), (aI (xa 2) (cy 0) 600 bytes)] H := hP
              have hD := gp_sD hP hD
              exact W.vret hx hb hr (fun t ht hW => ⟨⟨⟨tape_fault_17, tape_faultPlace_18, tape_at_3, ta, ta⟩, rfl, ⟨w_4, h2, h2, h3, (lf_sX9_needName_2 tape_fault tape_fault_1 tape_fault_17 w_6 c_7 w_19)⟩, gp_end ht hP hD⟩, hS.F ht⟩) hS.2.2 dX9_needName_85
        · refine lv_aload_n hx hb dX9_needName_27 rfl (lv_at hl 1 rfl) ?_
          have hPc := hP.sub (ws' := [(o_tape xa tape_length tape_fault_1 tape_faultPlace_2 tape_at_3 tape_wordTo ta), (aI (xa 2) (cy 0) 600 bytes)]) [0, 1] rfl
          have hDc := hD.sub (ws' := [(o_tape xa tape_length tape_fault_1 tape_faultPlace_2 tape_at_3 tape_wordTo ta), (aI (xa 2) (cy 0) 600 bytes)]) [0, 1] (by decide) rfl
          have hFc := va_free (wc := [(o_tape xa tape_length tape_fault_1 tape_faultPlace_2 tape_at_3 tape_wordTo ta), (aI (xa 2) (cy 0) 600 bytes)]) hD hS hA [0, 1] rfl
          refine va_calli (va_runV (As := []) (rest := []) ⟨hx, hb, hml, hown, hts⟩ (sX9_isLetter2 l D cy H.size xa tape_length tape_fault_1 tape_faultPlace_2 tape_at_3 tape_wordTo ta bytes f_tape_length w_4 f_tape_wordTo h2) (cwV 0 hts g_sX9_needName_sX9_isLetter2_2 rfl rfl rfl (by decide +kernel) ⟨Nat.le_of_ble_eq_true rfl, Nat.le_of_ble_eq_true rfl⟩) (gp_preV (RX9, TX9, 7) 9 0 hPc hDc hK hN rfl rfl) rfl rfl hl.1 rfl (lv_room (Nat.le_of_ble_eq_true rfl)) dX9_needName_28 ⟨Nat.le_of_ble_eq_true rfl, Nat.le_of_ble_eq_true rfl⟩) hS (fun q _ h => hFc q h) hFc (fun r_20 u t H locs ht hvm hw hB hz1 hk1 hS => ?_)
          have hP := gp_joinU (wc := [(o_tape xa tape_length tape_fault_1 tape_faultPlace_2 tape_at_3 tape_wordTo ta), (aI (xa 2) (cy 0) 600 bytes)]) hP hD [0, 1] rfl hk1 ht hB
          obtain ⟨w_21, w_22⟩ := hw
          refine lv_if_eq (tgt := 50) hx hb dX9_needName_31 (by decide) (fun c_23 => ?_) (fun c_23 => ?_)
          · refine lv_aload_n hx hb dX9_needName_50 rfl (lv_at hl 1 rfl) ?_
            refine lv_aload_n hx hb dX9_needName_51 rfl (lv_at hl 1 rfl) ?_
            refine va_get (D := D) (ci := 9) (v := .int ta) (C := RX9) (T := TX9) (N := 7) hx hb hts hiX9 hown hK hP 0 rfl rfl 5 (by decide) (hts (.fieldLink RX9 25 "GhostPane$Tape" "at" "I") (List.mem_of_getElem? (i := 2) rfl)) (fun _ h9 => h9) rfl dX9_needName_52 ?_
            refine va_put (D := D) (ci := 9) (v := .int ta) (ty := .int) (C := RX9) (T := TX9) (N := 7) hx hb hts hiX9 tyX9 tyX9_ok nmX9 hown hK hP hD hS 0 rfl rfl 4 (by decide) (hts (.fieldLink RX9 46 "GhostPane$Tape" "wordTo" "I") (List.mem_of_getElem? (i := 20) rfl)) (fun _ h9 => h9) rfl (by decide +kernel) rfl rfl (Nat.le_of_ble_eq_true rfl) dX9_needName_55 (fun H locs hP hD hS => ?_)
            have hP : va_P D vwCl [(o_tape xa tape_length tape_fault_1 tape_faultPlace_2 tape_at_3 ta ta), (aI (xa 2) (cy 0) 600 bytes)] H := hP
            have hD := gp_sD hP hD
            refine lv_aload_n hx hb dX9_needName_58 rfl (lv_at hl 1 rfl) ?_
            refine va_get (D := D) (ci := 9) (v := .int ta) (C := RX9) (T := TX9) (N := 7) hx hb hts hiX9 hown hK hP 0 rfl rfl 4 (by decide) (hts (.fieldLink RX9 46 "GhostPane$Tape" "wordTo" "I") (List.mem_of_getElem? (i := 20) rfl)) (fun _ h9 => h9) rfl dX9_needName_59 ?_
            refine lv_aload_n hx hb dX9_needName_62 rfl (lv_at hl 1 rfl) ?_
            refine va_get (D := D) (ci := 9) (v := .int tape_at_3) (C := RX9) (T := TX9) (N := 7) hx hb hts hiX9 hown hK hP 0 rfl rfl 3 (by decide) (hts (.fieldLink RX9 39 "GhostPane$Tape" "wordFrom" "I") (List.mem_of_getElem? (i := 19) rfl)) (fun _ h9 => h9) rfl dX9_needName_63 ?_
            refine lv_icmp_eq (tgt := 76) hx hb dX9_needName_66 (by decide) (fun c_24 => ?_) (fun c_24 => ?_)
            · refine lv_aload_n hx hb dX9_needName_76 rfl (lv_at hl 1 rfl) ?_
              refine lv_iconst (v := 1) hx hb dX9_needName_77 (by decide) ?_
              refine lv_aload_n hx hb dX9_needName_78 rfl (lv_at hl 1 rfl) ?_
              refine va_get (D := D) (ci := 9) (v := .int ta) (C := RX9) (T := TX9) (N := 7) hx hb hts hiX9 hown hK hP 0 rfl rfl 5 (by decide) (hts (.fieldLink RX9 25 "GhostPane$Tape" "at" "I") (List.mem_of_getElem? (i := 2) rfl)) (fun _ h9 => h9) rfl dX9_needName_79 ?_
              have hPc := hP.sub (ws' := [(o_tape xa tape_length tape_fault_1 tape_faultPlace_2 tape_at_3 ta ta)]) [0] rfl
              have hDc := hD.sub (ws' := [(o_tape xa tape_length tape_fault_1 tape_faultPlace_2 tape_at_3 ta ta)]) [0] (by decide) rfl
              have hFc := va_free (wc := [(o_tape xa tape_length tape_fault_1 tape_faultPlace_2 tape_at_3 ta ta)]) hD hS hA [0] rfl
              refine va_callv (va_runV (As := [.int 1, .int ta]) (rest := []) ⟨hx, hb, hml, hown, hts⟩ (sX9_fail l D cy H.size xa tape_length tape_fault_1 tape_faultPlace_2 tape_at_3 ta ta 1 ta f_tape_length w_4 h2 h2 (show ¬ 1 = 0 by decide)) (cwV 2 hts g_sX9_needName_sX9_fail_1 rfl rfl rfl (by decide +kernel) ⟨Nat.le_of_ble_eq_true rfl, Nat.le_of_ble_eq_true rfl⟩) (gp_preV (RX9, TX9, 7) 9 0 hPc hDc hK hN rfl rfl) rfl rfl hl.1 rfl (lv_room (Nat.le_of_ble_eq_true rfl)) dX9_needName_82 ⟨Nat.le_of_ble_eq_true rfl, Nat.le_of_ble_eq_true rfl⟩) hS (fun q _ h => hFc q h) hFc (fun u t H locs ht hvm hw hB hz1 hk1 hS => ?_)
              obtain ⟨tape_fault_25, tape_faultPlace_26⟩ := u
              obtain ⟨hP, hD⟩ := gp_joinS (wc := [(o_tape xa tape_length tape_fault_1 tape_faultPlace_2 tape_at_3 ta ta)]) (w1 := [(o_tape xa tape_length tape_fault_25 tape_faultPlace_26 tape_at_3 ta ta)]) hP hD [0] rfl rfl hk1 ht hB
              have w_27 := hw
              have hP : va_P D vwCl [(o_tape xa tape_length tape_fault_25 tape_faultPlace_26 tape_at_3 ta ta), (aI (xa 2) (cy 0) 600 bytes)] H := hP
              have hD := gp_sD hP hD
              exact W.vret hx hb hr (fun t ht hW => ⟨⟨⟨tape_fault_25, tape_faultPlace_26, tape_at_3, ta, ta⟩, rfl, ⟨w_4, h2, h2, h3, (lf_sX9_needName_3 tape_fault tape_fault_1 tape_fault_25 w_6 c_7 w_27)⟩, gp_end ht hP hD⟩, hS.F ht⟩) hS.2.2 dX9_needName_85
            · refine lv_aload_n hx hb dX9_needName_69 rfl (lv_at hl 1 rfl) ?_
              have hPc := hP.sub (ws' := [(o_tape xa tape_length tape_fault_1 tape_faultPlace_2 tape_at_3 ta ta), (aI (xa 2) (cy 0) 600 bytes)]) [0, 1] rfl
              have hDc := hD.sub (ws' := [(o_tape xa tape_length tape_fault_1 tape_faultPlace_2 tape_at_3 ta ta), (aI (xa 2) (cy 0) 600 bytes)]) [0, 1] (by decide) rfl
              have hFc := va_free (wc := [(o_tape xa tape_length tape_fault_1 tape_faultPlace_2 tape_at_3 ta ta), (aI (xa 2) (cy 0) 600 bytes)]) hD hS hA [0, 1] rfl
              refine va_calli (va_runV (As := []) (rest := []) ⟨hx, hb, hml, hown, hts⟩ (sX9_isLetter2 l D cy H.size xa tape_length tape_fault_1 tape_faultPlace_2 tape_at_3 ta ta bytes f_tape_length w_4 h2 h2) (cwV 0 hts g_sX9_needName_sX9_isLetter2_2 rfl rfl rfl (by decide +kernel) ⟨Nat.le_of_ble_eq_true rfl, Nat.le_of_ble_eq_true rfl⟩) (gp_preV (RX9, TX9, 7) 9 0 hPc hDc hK hN rfl rfl) rfl rfl hl.1 rfl (lv_room (Nat.le_of_ble_eq_true rfl)) dX9_needName_70 ⟨Nat.le_of_ble_eq_true rfl, Nat.le_of_ble_eq_true rfl⟩) hS (fun q _ h => hFc q h) hFc (fun r_28 u t H locs ht hvm hw hB hz1 hk1 hS => ?_)
              have hP := gp_joinU (wc := [(o_tape xa tape_length tape_fault_1 tape_faultPlace_2 tape_at_3 ta ta), (aI (xa 2) (cy 0) 600 bytes)]) hP hD [0, 1] rfl hk1 ht hB
              obtain ⟨w_29, w_30⟩ := hw
              refine lv_if_eq (tgt := 85) hx hb dX9_needName_73 (by decide) (fun c_31 => ?_) (fun c_31 => ?_)
              · exact W.vret hx hb hr (fun t ht hW => ⟨⟨⟨tape_fault_1, tape_faultPlace_2, tape_at_3, ta, ta⟩, rfl, ⟨w_4, h2, h2, h3, w_6⟩, gp_end ht hP hD⟩, hS.F ht⟩) hS.2.2 dX9_needName_85
              · refine lv_aload_n hx hb dX9_needName_76 rfl (lv_at hl 1 rfl) ?_
                refine lv_iconst (v := 1) hx hb dX9_needName_77 (by decide) ?_
                refine lv_aload_n hx hb dX9_needName_78 rfl (lv_at hl 1 rfl) ?_
                refine va_get (D := D) (ci := 9) (v := .int ta) (C := RX9) (T := TX9) (N := 7) hx hb hts hiX9 hown hK hP 0 rfl rfl 5 (by decide) (hts (.fieldLink RX9 25 "GhostPane$Tape" "at" "I") (List.mem_of_getElem? (i := 2) rfl)) (fun _ h9 => h9) rfl dX9_needName_79 ?_
                have hPc := hP.sub (ws' := [(o_tape xa tape_length tape_fault_1 tape_faultPlace_2 tape_at_3 ta ta)]) [0] rfl
                have hDc := hD.sub (ws' := [(o_tape xa tape_length tape_fault_1 tape_faultPlace_2 tape_at_3 ta ta)]) [0] (by decide) rfl
                have hFc := va_free (wc := [(o_tape xa tape_length tape_fault_1 tape_faultPlace_2 tape_at_3 ta ta)]) hD hS hA [0] rfl
                refine va_callv (va_runV (As := [.int 1, .int ta]) (rest := []) ⟨hx, hb, hml, hown, hts⟩ (sX9_fail l D cy H.size xa tape_length tape_fault_1 tape_faultPlace_2 tape_at_3 ta ta 1 ta f_tape_length w_4 h2 h2 (show ¬ 1 = 0 by decide)) (cwV 2 hts g_sX9_needName_sX9_fail_1 rfl rfl rfl (by decide +kernel) ⟨Nat.le_of_ble_eq_true rfl, Nat.le_of_ble_eq_true rfl⟩) (gp_preV (RX9, TX9, 7) 9 0 hPc hDc hK hN rfl rfl) rfl rfl hl.1 rfl (lv_room (Nat.le_of_ble_eq_true rfl)) dX9_needName_82 ⟨Nat.le_of_ble_eq_true rfl, Nat.le_of_ble_eq_true rfl⟩) hS (fun q _ h => hFc q h) hFc (fun u t H locs ht hvm hw hB hz1 hk1 hS => ?_)
                obtain ⟨tape_fault_32, tape_faultPlace_33⟩ := u
                obtain ⟨hP, hD⟩ := gp_joinS (wc := [(o_tape xa tape_length tape_fault_1 tape_faultPlace_2 tape_at_3 ta ta)]) (w1 := [(o_tape xa tape_length tape_fault_32 tape_faultPlace_33 tape_at_3 ta ta)]) hP hD [0] rfl rfl hk1 ht hB
                have w_34 := hw
                have hP : va_P D vwCl [(o_tape xa tape_length tape_fault_32 tape_faultPlace_33 tape_at_3 ta ta), (aI (xa 2) (cy 0) 600 bytes)] H := hP
                have hD := gp_sD hP hD
                exact W.vret hx hb hr (fun t ht hW => ⟨⟨⟨tape_fault_32, tape_faultPlace_33, tape_at_3, ta, ta⟩, rfl, ⟨w_4, h2, h2, h3, (lf_sX9_needName_4 tape_fault tape_fault_1 tape_fault_32 w_6 c_7 w_34)⟩, gp_end ht hP hD⟩, hS.F ht⟩) hS.2.2 dX9_needName_85
          · refine lv_aload_n hx hb dX9_needName_34 rfl (lv_at hl 1 rfl) ?_
            refine lv_dup hx hb dX9_needName_35 rfl ?_
            refine va_get (D := D) (ci := 9) (v := .int ta) (C := RX9) (T := TX9) (N := 7) hx hb hts hiX9 hown hK hP 0 rfl rfl 5 (by decide) (hts (.fieldLink RX9 25 "GhostPane$Tape" "at" "I") (List.mem_of_getElem? (i := 2) rfl)) (fun _ h9 => h9) rfl dX9_needName_36 ?_
            refine lv_iconst (v := 1) hx hb dX9_needName_39 (by decide) ?_
            refine lv_iadd hx hb dX9_needName_40 ?_
            refine va_put (D := D) (ci := 9) (v := .int (ta + 1)) (ty := .int) (C := RX9) (T := TX9) (N := 7) hx hb hts hiX9 tyX9 tyX9_ok nmX9 hown hK hP hD hS 0 rfl rfl 5 (by decide) (hts (.fieldLink RX9 25 "GhostPane$Tape" "at" "I") (List.mem_of_getElem? (i := 2) rfl)) (fun _ h9 => h9) rfl (by decide +kernel) rfl rfl (Nat.le_of_ble_eq_true rfl) dX9_needName_41 (fun H locs hP hD hS => ?_)
            have hP : va_P D vwCl [(o_tape xa tape_length tape_fault_1 tape_faultPlace_2 tape_at_3 tape_wordTo (ta + 1)), (aI (xa 2) (cy 0) 600 bytes)] H := hP
            have hD := gp_sD hP hD
            refine lv_iinc (v := (ii + 1)) (lv' := [(1, .int (ii + 1)), (0, .ref (xa 1))]) hx hb dX9_needName_44 hl (k := 0) rfl rfl (by decide) rfl (fun ls hl => ?_)
            refine lv_goto (tgt := 21) hx hb dX9_needName_47 (by decide) ?_
            exact ih (ii + 1) (ta + 1) H locs ls (lf_sX9_needName_5 ii h1 c_8) (lf_sX9_needName_6 tape_length tape_at tape_at_3 ta r_20 f_tape_length f_tape_at w_4 w_5 h2 h3 w_21 w_22 c_23) (lf_sX9_needName_7 tape_length tape_at tape_at_3 ta r_20 f_tape_length f_tape_at w_4 w_5 h2 h3 w_21 w_22 c_23) (Nat.lt_of_lt_of_le (gp_mdec (b := 6) (lf_sX9_needName_8 ii h1 c_8)) (Nat.le_of_lt_succ hfu)) hP hD hS (lv_sub hl [0, 1] rfl)
    exact key21 ((6 - (0 : Int32).toInt).toNat + 1) 0 tape_at_3 H locs ls (show sp_in 0 0 6 by decide) w_4 w_5 (Nat.lt_succ_self _) hP hD hS (lv_sub hl [0, 1] rfl)

theorem lf_sX9_needNumber_1 (tape_fault : Int32) (lo : Int32) (hi : Int32) (tape_fault_1 : Int32) (va : Int32) (tf : Int32) (w_6 : tape_fault_1 = 0 → tape_fault = 0) (c_7 : tape_fault_1 = 0) (hc1 : tf = 0 → sp_in va lo hi) (c_9 : ¬ tf = 0) : tf = 0 → tape_fault = 0 := by
  first | grind | (simp only [sp_in, sp_pl, sp_far, sp_two] at *; grind)
theorem lf_sX9_needNumber_2 (lo : Int32) (hi : Int32) (va : Int32) (tf : Int32) (hc1 : tf = 0 → sp_in va lo hi) (c_9 : ¬ tf = 0) : tf = 0 → sp_in ((-1) : Int32) lo hi := by
  first | grind | (simp only [sp_in, sp_pl, sp_far, sp_two] at *; grind)
theorem lf_sX9_needNumber_3 (lo : Int32) (hi : Int32) (va : Int32) (tf : Int32) (hc1 : tf = 0 → sp_in va lo hi) (c_9 : ¬ tf = 0) : ¬ tf = 0 → ((-1) : Int32) = (-1) := by
  first | grind | (simp only [sp_in, sp_pl, sp_far, sp_two] at *; grind)
theorem lf_sX9_needNumber_4 (tape_fault : Int32) (lo : Int32) (hi : Int32) (tape_fault_1 : Int32) (va : Int32) (tf : Int32) (w_6 : tape_fault_1 = 0 → tape_fault = 0) (c_7 : tape_fault_1 = 0) (hc1 : tf = 0 → sp_in va lo hi) (c_9 : tf = 0) : tf = 0 → tape_fault = 0 := by
  first | grind | (simp only [sp_in, sp_pl, sp_far, sp_two] at *; grind)
theorem lf_sX9_needNumber_5 (lo : Int32) (hi : Int32) (va : Int32) (tf : Int32) (hc1 : tf = 0 → sp_in va lo hi) (c_9 : tf = 0) : ¬ tf = 0 → va = (-1) := by
  first | grind | (simp only [sp_in, sp_pl, sp_far, sp_two] at *; grind)
theorem lf_sX9_needNumber_6 (lo : Int32) (hi : Int32) (va : Int32) (tape_fault_11 : Int32) (w_13 : ¬ tape_fault_11 = 0) : tape_fault_11 = 0 → sp_in va lo hi := by
  first | grind | (simp only [sp_in, sp_pl, sp_far, sp_two] at *; grind)
theorem lf_sX9_needNumber_7 (lo : Int32) (hi : Int32) (va : Int32) (tape_fault_19 : Int32) (c_18 : va < lo) (w_21 : ¬ tape_fault_19 = 0) : tape_fault_19 = 0 → sp_in va lo hi := by
  first | grind | (simp only [sp_in, sp_pl, sp_far, sp_two] at *; grind)
theorem lf_sX9_needNumber_8 (tape_fault : Int32) (lo : Int32) (hi : Int32) (tape_fault_1 : Int32) (va : Int32) (w_6 : tape_fault_1 = 0 → tape_fault = 0) (c_7 : tape_fault_1 = 0) (c_18 : ¬ va < lo) (c_22 : va ≤ hi) : tape_fault_1 = 0 → sp_in va lo hi := by
  first | grind | (simp only [sp_in, sp_pl, sp_far, sp_two] at *; grind)
theorem lf_sX9_needNumber_9 (lo : Int32) (hi : Int32) (va : Int32) (tape_fault_23 : Int32) (c_18 : ¬ va < lo) (c_22 : ¬ va ≤ hi) (w_25 : ¬ tape_fault_23 = 0) : tape_fault_23 = 0 → sp_in va lo hi := by
  first | grind | (simp only [sp_in, sp_pl, sp_far, sp_two] at *; grind)
theorem lf_sX9_needNumber_10 (lo : Int32) (hi : Int32) (va : Int32) (tape_fault_26 : Int32) (w_28 : ¬ tape_fault_26 = 0) : tape_fault_26 = 0 → sp_in va lo hi := by
  first | grind | (simp only [sp_in, sp_pl, sp_far, sp_two] at *; grind)
theorem lf_sX9_needNumber_11 (tape_fault : Int32) (lo : Int32) (hi : Int32) (tape_fault_1 : Int32) (va : Int32) (tf : Int32) (w_6 : tape_fault_1 = 0 → tape_fault = 0) (c_7 : tape_fault_1 = 0) (hc1 : tf = 0 → sp_in va lo hi) (c_33 : ¬ tf = 0) : tf = 0 → tape_fault = 0 := by
  first | grind | (simp only [sp_in, sp_pl, sp_far, sp_two] at *; grind)
theorem lf_sX9_needNumber_12 (lo : Int32) (hi : Int32) (va : Int32) (tf : Int32) (hc1 : tf = 0 → sp_in va lo hi) (c_33 : ¬ tf = 0) : tf = 0 → sp_in ((-1) : Int32) lo hi := by
  first | grind | (simp only [sp_in, sp_pl, sp_far, sp_two] at *; grind)
theorem lf_sX9_needNumber_13 (lo : Int32) (hi : Int32) (va : Int32) (tf : Int32) (hc1 : tf = 0 → sp_in va lo hi) (c_33 : ¬ tf = 0) : ¬ tf = 0 → ((-1) : Int32) = (-1) := by
  first | grind | (simp only [sp_in, sp_pl, sp_far, sp_two] at *; grind)
theorem lf_sX9_needNumber_14 (tape_fault : Int32) (lo : Int32) (hi : Int32) (tape_fault_1 : Int32) (va : Int32) (tf : Int32) (w_6 : tape_fault_1 = 0 → tape_fault = 0) (c_7 : tape_fault_1 = 0) (hc1 : tf = 0 → sp_in va lo hi) (c_33 : tf = 0) : tf = 0 → tape_fault = 0 := by
  first | grind | (simp only [sp_in, sp_pl, sp_far, sp_two] at *; grind)
theorem lf_sX9_needNumber_15 (lo : Int32) (hi : Int32) (va : Int32) (tf : Int32) (hc1 : tf = 0 → sp_in va lo hi) (c_33 : tf = 0) : ¬ tf = 0 → va = (-1) := by
  first | grind | (simp only [sp_in, sp_pl, sp_far, sp_two] at *; grind)
theorem lf_sX9_needNumber_16 (lo : Int32) (hi : Int32) (va : Int32) (tape_fault_35 : Int32) (w_37 : ¬ tape_fault_35 = 0) : tape_fault_35 = 0 → sp_in va lo hi := by
  first | grind | (simp only [sp_in, sp_pl, sp_far, sp_two] at *; grind)
theorem lf_sX9_needNumber_17 (lo : Int32) (hi : Int32) (va : Int32) (tape_fault_43 : Int32) (c_42 : va < lo) (w_45 : ¬ tape_fault_43 = 0) : tape_fault_43 = 0 → sp_in va lo hi := by
  first | grind | (simp only [sp_in, sp_pl, sp_far, sp_two] at *; grind)
theorem lf_sX9_needNumber_18 (tape_fault : Int32) (lo : Int32) (hi : Int32) (tape_fault_1 : Int32) (va : Int32) (w_6 : tape_fault_1 = 0 → tape_fault = 0) (c_7 : tape_fault_1 = 0) (c_42 : ¬ va < lo) (c_46 : va ≤ hi) : tape_fault_1 = 0 → sp_in va lo hi := by
  first | grind | (simp only [sp_in, sp_pl, sp_far, sp_two] at *; grind)
theorem lf_sX9_needNumber_19 (lo : Int32) (hi : Int32) (va : Int32) (tape_fault_47 : Int32) (c_42 : ¬ va < lo) (c_46 : ¬ va ≤ hi) (w_49 : ¬ tape_fault_47 = 0) : tape_fault_47 = 0 → sp_in va lo hi := by
  first | grind | (simp only [sp_in, sp_pl, sp_far, sp_two] at *; grind)
theorem lf_sX9_needNumber_20 (lo : Int32) (hi : Int32) (va : Int32) (tape_fault_50 : Int32) (w_52 : ¬ tape_fault_50 = 0) : tape_fault_50 = 0 → sp_in va lo hi := by
  first | grind | (simp only [sp_in, sp_pl, sp_far, sp_two] at *; grind)
theorem lf_sX9_needNumber_21 (tape_length : Int32) (tape_at : Int32) (tape_at_3 : Int32) (ta : Int32) (r_29 : Int32) (f_tape_length : sp_in tape_length 0 600) (f_tape_at : sp_in tape_at 0 600) (w_4 : sp_in tape_at_3 0 600) (w_5 : tape_at ≤ tape_at_3) (h2 : sp_in ta 0 600) (h3 : tape_at ≤ ta) (w_30 : r_29 = 0 ∨ r_29 = 1) (w_31 : r_29 = 1 → ta < tape_length) (c_32 : ¬ r_29 = 0) : sp_in ta 0 599 := by
  first | grind | (simp only [sp_in, sp_pl, sp_far, sp_two] at *; grind)
theorem lf_sX9_needNumber_22 (ii : Int32) (h1 : sp_in ii 0 4) (c_8 : ¬ 4 ≤ ii) : sp_in (ii + 1) 0 4 := by
  first | grind | (simp only [sp_in, sp_pl, sp_far, sp_two] at *; grind)
theorem lf_sX9_needNumber_23 (tape_length : Int32) (tape_at : Int32) (tape_at_3 : Int32) (ta : Int32) (r_29 : Int32) (f_tape_length : sp_in tape_length 0 600) (f_tape_at : sp_in tape_at 0 600) (w_4 : sp_in tape_at_3 0 600) (w_5 : tape_at ≤ tape_at_3) (h2 : sp_in ta 0 600) (h3 : tape_at ≤ ta) (w_30 : r_29 = 0 ∨ r_29 = 1) (w_31 : r_29 = 1 → ta < tape_length) (c_32 : ¬ r_29 = 0) : sp_in (ta + 1) 0 600 := by
  first | grind | (simp only [sp_in, sp_pl, sp_far, sp_two] at *; grind)
theorem lf_sX9_needNumber_24 (tape_length : Int32) (tape_at : Int32) (tape_at_3 : Int32) (ta : Int32) (r_29 : Int32) (f_tape_length : sp_in tape_length 0 600) (f_tape_at : sp_in tape_at 0 600) (w_4 : sp_in tape_at_3 0 600) (w_5 : tape_at ≤ tape_at_3) (h2 : sp_in ta 0 600) (h3 : tape_at ≤ ta) (w_30 : r_29 = 0 ∨ r_29 = 1) (w_31 : r_29 = 1 → ta < tape_length) (c_32 : ¬ r_29 = 0) : tape_at ≤ (ta + 1) := by
  first | grind | (simp only [sp_in, sp_pl, sp_far, sp_two] at *; grind)
theorem lf_sX9_needNumber_25 (ii : Int32) (h1 : sp_in ii 0 4) (c_8 : ¬ 4 ≤ ii) : ii < 4 := by
  first | grind | (simp only [sp_in, sp_pl, sp_far, sp_two] at *; grind)
theorem lf_sX9_needNumber_26 (tape_fault : Int32) (lo : Int32) (hi : Int32) (tape_fault_1 : Int32) (w_6 : tape_fault_1 = 0 → tape_fault = 0) (c_7 : ¬ tape_fault_1 = 0) : tape_fault_1 = 0 → sp_in ((-1) : Int32) lo hi := by
  first | grind | (simp only [sp_in, sp_pl, sp_far, sp_two] at *; grind)
theorem lf_sX9_needNumber_27 (tape_fault : Int32) (tape_fault_1 : Int32) (w_6 : tape_fault_1 = 0 → tape_fault = 0) (c_7 : ¬ tape_fault_1 = 0) : ¬ tape_fault_1 = 0 → ((-1) : Int32) = (-1) := by
  first | grind | (simp only [sp_in, sp_pl, sp_far, sp_two] at *; grind)
def v_sX9_needNumber : List Cond := .code yX9_needNumber cX9_needNumber 6 (some .int) :: (([.code yX9_skipGap cX9_skipGap 2 none, .fieldLink RX9 25 "GhostPane$Tape" "at" "I", .code yX9_skipBlanks cX9_skipBlanks 1 none, .fieldLink RX9 22 "GhostPane$Tape" "length" "I", .fieldLink RX9 18 "GhostPane$Tape" "bytes" "[B", .methodLink RX9 28 yX9_skipBlanks, .instanceMethod yX9_skipBlanks, .selects RX9 yX9_skipBlanks yX9_skipBlanks, .initialized RX9, .code yX9_fail cX9_fail 3 none, .fieldLink RX9 9 "GhostPane$Tape" "fault" "I", .fieldLink RX9 15 "GhostPane$Tape" "faultPlace" "I", .methodLink RX9 31 yX9_fail, .instanceMethod yX9_fail, .selects RX9 yX9_fail yX9_fail, .methodLink RX9 58 yX9_skipGap, .instanceMethod yX9_skipGap, .selects RX9 yX9_skipGap yX9_skipGap, .code yX9_isDigit cX9_isDigit 1 (some .boolean), .methodLink RX9 68 yX9_isDigit, .instanceMethod yX9_isDigit, .selects RX9 yX9_isDigit yX9_isDigit] : List Cond) ++ wsX90)
set_option maxRecDepth 20000 in
theorem gg_sX9_needNumber_sX9_skipGap : GoodIn v_sX9_needNumber v_sX9_skipGap := goodIn_ca (goodIn_r (.code yX9_skipGap cX9_skipGap 2 none :: [.fieldLink RX9 25 "GhostPane$Tape" "at" "I", .code yX9_skipBlanks cX9_skipBlanks 1 none, .fieldLink RX9 22 "GhostPane$Tape" "length" "I", .fieldLink RX9 18 "GhostPane$Tape" "bytes" "[B", .methodLink RX9 28 yX9_skipBlanks, .instanceMethod yX9_skipBlanks, .selects RX9 yX9_skipBlanks yX9_skipBlanks, .initialized RX9, .code yX9_fail cX9_fail 3 none, .fieldLink RX9 9 "GhostPane$Tape" "fault" "I", .fieldLink RX9 15 "GhostPane$Tape" "faultPlace" "I", .methodLink RX9 31 yX9_fail, .instanceMethod yX9_fail, .selects RX9 yX9_fail yX9_fail]) [1, 2, 3, 4, 5, 6, 7, 8, 9, 10, 11, 12, 13, 14, 15] (by first | rfl | decide +kernel) (by decide +kernel)) (goodIn_sub (fun _ h => List.mem_cons_of_mem _ (List.mem_append_right _ h)) gwX9)
set_option maxRecDepth 20000 in
theorem g_sX9_needNumber_sX9_skipGap_0 : GoodIn v_sX9_needNumber (wsV RX9 58 RX9 yX9_skipGap v_sX9_skipGap) := goodIn_app (goodIn_r [.methodLink RX9 58 yX9_skipGap, .instanceMethod yX9_skipGap, .selects RX9 yX9_skipGap yX9_skipGap, .initialized RX9] [16, 17, 18, 9] rfl (by decide +kernel)) gg_sX9_needNumber_sX9_skipGap
set_option maxRecDepth 20000 in
theorem gg_sX9_needNumber_sX9_fail : GoodIn v_sX9_needNumber v_sX9_fail := goodIn_ca (goodIn_r (.code yX9_fail cX9_fail 3 none :: [.fieldLink RX9 9 "GhostPane$Tape" "fault" "I", .fieldLink RX9 15 "GhostPane$Tape" "faultPlace" "I"]) [10, 11, 12] (by first | rfl | decide +kernel) (by decide +kernel)) (goodIn_sub (fun _ h => List.mem_cons_of_mem _ (List.mem_append_right _ h)) gwX9)
set_option maxRecDepth 20000 in
theorem g_sX9_needNumber_sX9_fail_1 : GoodIn v_sX9_needNumber (wsV RX9 31 RX9 yX9_fail v_sX9_fail) := goodIn_app (goodIn_r [.methodLink RX9 31 yX9_fail, .instanceMethod yX9_fail, .selects RX9 yX9_fail yX9_fail, .initialized RX9] [13, 14, 15, 9] rfl (by decide +kernel)) gg_sX9_needNumber_sX9_fail
set_option maxRecDepth 20000 in
theorem gg_sX9_needNumber_sX9_isDigit2 : GoodIn v_sX9_needNumber v_sX9_isDigit2 := goodIn_ca (goodIn_r (.code yX9_isDigit cX9_isDigit 1 (some .boolean) :: [.fieldLink RX9 25 "GhostPane$Tape" "at" "I", .fieldLink RX9 22 "GhostPane$Tape" "length" "I", .fieldLink RX9 18 "GhostPane$Tape" "bytes" "[B"]) [19, 2, 4, 5] (by first | rfl | decide +kernel) (by decide +kernel)) (goodIn_sub (fun _ h => List.mem_cons_of_mem _ (List.mem_append_right _ h)) gwX9)
set_option maxRecDepth 20000 in
theorem g_sX9_needNumber_sX9_isDigit2_2 : GoodIn v_sX9_needNumber (wsV RX9 68 RX9 yX9_isDigit v_sX9_isDigit2) := goodIn_app (goodIn_r [.methodLink RX9 68 yX9_isDigit, .instanceMethod yX9_isDigit, .selects RX9 yX9_isDigit yX9_isDigit, .initialized RX9] [20, 21, 22, 9] rfl (by decide +kernel)) gg_sX9_needNumber_sX9_isDigit2
set_option maxHeartbeats 4000000 in
set_option maxRecDepth 100000 in
theorem sX9_needNumber (l : Launch) (D : va_G) (cy : Nat → ClassId) (sz : Nat) (xa : Nat → Nat) (tape_length : Int32) (tape_fault : Int32) (tape_faultPlace : Int32) (tape_wordFrom : Int32) (tape_wordTo : Int32) (tape_at : Int32) (bytes : Nat → Int32) (lo : Int32) (hi : Int32) (f_tape_length : sp_in tape_length 0 600) (f_tape_wordFrom : sp_in tape_wordFrom 0 600) (f_tape_wordTo : sp_in tape_wordTo 0 600) (f_tape_at : sp_in tape_at 0 600) : Met l yX9_needNumber v_sX9_needNumber ({ frames := 2, cells := 0, slots := 0, locals := 43 } : Room) (va_Pc [.ref (xa 1), .int lo, .int hi] (gp_B D cy sz [(o_tape xa tape_length tape_fault tape_faultPlace tape_wordFrom tape_wordTo tape_at), (aI (xa 2) (cy 0) 600 bytes)])) (va_Qi (fun (r : Int32) (u : (Int32) × (Int32) × (Int32)) => (sp_in u.2.2 0 600) ∧ (tape_at ≤ u.2.2) ∧ (u.1 = 0 → tape_fault = 0) ∧ (u.1 = 0 → sp_in r lo hi) ∧ (¬ u.1 = 0 → r = (-1))) (fun u => gp_E D (va_A [(o_tape xa tape_length tape_fault tape_faultPlace tape_wordFrom tape_wordTo tape_at), (aI (xa 2) (cy 0) 600 bytes)] sz) [(o_tape xa tape_length u.1 u.2.1 tape_wordFrom tape_wordTo u.2.2), (aI (xa 2) (cy 0) 600 bytes)]) (va_A [(o_tape xa tape_length tape_fault tape_faultPlace tape_wordFrom tape_wordTo tape_at), (aI (xa 2) (cy 0) 600 bytes)] sz)) 0 0 (va_A [(o_tape xa tape_length tape_fault tape_faultPlace tape_wordFrom tape_wordTo tape_at), (aI (xa 2) (cy 0) 600 bytes)] sz) := by
  refine gp_met (Qc := fun A => va_Qi (fun (r : Int32) (u : (Int32) × (Int32) × (Int32)) => (sp_in u.2.2 0 600) ∧ (tape_at ≤ u.2.2) ∧ (u.1 = 0 → tape_fault = 0) ∧ (u.1 = 0 → sp_in r lo hi) ∧ (¬ u.1 = 0 → r = (-1))) (fun u => gp_E D A [(o_tape xa tape_length u.1 u.2.1 tape_wordFrom tape_wordTo u.2.2), (aI (xa 2) (cy 0) 600 bytes)]) A) (cc := cX9_needNumber) (maxL := 6) (ret := (some .int)) (by decide) rfl (Nat.le_of_ble_eq_true rfl) ?_
  intro p e s m below meth c A ls H hx hb hml hr hlocks hts hown hin hK hN hS hP hD hA hl
  have hown : s.vm.findClass RX9 = some m.cls := hown
  have hl : lv_has ls 6 [(0, .ref (xa 1)), (1, .int lo), (2, .int hi)] := hl
  have hiX9 : ∀ w ∈ u_ws RX9 TX9 7, w ∈ v_sX9_needNumber := fun _ h => List.mem_cons_of_mem _ (List.mem_append_right _ h)
  refine lv_aload_n hx hb dX9_needNumber_0 rfl (lv_at hl 0 rfl) ?_
  have hPc := hP.sub (ws' := [(o_tape xa tape_length tape_fault tape_faultPlace tape_wordFrom tape_wordTo tape_at), (aI (xa 2) (cy 0) 600 bytes)]) [0, 1] rfl
  have hDc := hD.sub (ws' := [(o_tape xa tape_length tape_fault tape_faultPlace tape_wordFrom tape_wordTo tape_at), (aI (xa 2) (cy 0) 600 bytes)]) [0, 1] (by decide) rfl
  have hFc := va_free (wc := [(o_tape xa tape_length tape_fault tape_faultPlace tape_wordFrom tape_wordTo tape_at), (aI (xa 2) (cy 0) 600 bytes)]) hD hS hA [0, 1] rfl
  refine va_callv (va_runV (As := []) (rest := []) ⟨hx, hb, hml, hown, hts⟩ (sX9_skipGap l D cy H.size xa tape_length tape_fault tape_faultPlace tape_wordFrom tape_wordTo tape_at bytes f_tape_length f_tape_wordFrom f_tape_wordTo f_tape_at) (cwV 0 hts g_sX9_needNumber_sX9_skipGap_0 rfl rfl rfl (by decide +kernel) ⟨Nat.le_of_ble_eq_true rfl, Nat.le_of_ble_eq_true rfl⟩) (gp_preV (RX9, TX9, 7) 9 0 hPc hDc hK hN rfl rfl) rfl rfl hl.1 rfl (lv_room (Nat.le_of_ble_eq_true rfl)) dX9_needNumber_1 ⟨Nat.le_of_ble_eq_true rfl, Nat.le_of_ble_eq_true rfl⟩) hS (fun q _ h => hFc q h) hFc (fun u t H locs ht hvm hw hB hz1 hk1 hS => ?_)
  obtain ⟨tape_fault_1, tape_faultPlace_2, tape_at_3⟩ := u
  obtain ⟨hP, hD⟩ := gp_joinS (wc := [(o_tape xa tape_length tape_fault tape_faultPlace tape_wordFrom tape_wordTo tape_at), (aI (xa 2) (cy 0) 600 bytes)]) (w1 := [(o_tape xa tape_length tape_fault_1 tape_faultPlace_2 tape_wordFrom tape_wordTo tape_at_3), (aI (xa 2) (cy 0) 600 bytes)]) hP hD [0, 1] rfl rfl hk1 ht hB
  obtain ⟨w_4, w_5, w_6⟩ := hw
  have hP : va_P D vwCl [(o_tape xa tape_length tape_fault_1 tape_faultPlace_2 tape_wordFrom tape_wordTo tape_at_3), (aI (xa 2) (cy 0) 600 bytes)] H := hP
  have hD := gp_sD hP hD
  refine lv_aload_n hx hb dX9_needNumber_4 rfl (lv_at hl 0 rfl) ?_
  refine va_get (D := D) (ci := 9) (v := .int tape_fault_1) (C := RX9) (T := TX9) (N := 7) hx hb hts hiX9 hown hK hP 0 rfl rfl 1 (by decide) (hts (.fieldLink RX9 9 "GhostPane$Tape" "fault" "I") (List.mem_of_getElem? (i := 11) rfl)) (fun _ h9 => h9) rfl dX9_needNumber_5 ?_
  refine lv_if_eq (tgt := 13) hx hb dX9_needNumber_8 (by decide) (fun c_7 => ?_) (fun c_7 => ?_)
  · refine lv_aload_n hx hb dX9_needNumber_13 rfl (lv_at hl 0 rfl) ?_
    refine va_get (D := D) (ci := 9) (v := .int tape_at_3) (C := RX9) (T := TX9) (N := 7) hx hb hts hiX9 hown hK hP 0 rfl rfl 5 (by decide) (hts (.fieldLink RX9 25 "GhostPane$Tape" "at" "I") (List.mem_of_getElem? (i := 2) rfl)) (fun _ h9 => h9) rfl dX9_needNumber_14 ?_
    refine lv_istore_n (lv' := [(3, .int tape_at_3), (0, .ref (xa 1)), (1, .int lo), (2, .int hi)]) hx hb dX9_needNumber_17 rfl hl (by decide) rfl (fun ls hl => ?_)
    refine lv_iconst (v := 0) hx hb dX9_needNumber_18 (by decide) ?_
    refine lv_istore (lv' := [(4, .int 0), (3, .int tape_at_3), (0, .ref (xa 1)), (1, .int lo), (2, .int hi)]) hx hb dX9_needNumber_19 hl (by decide) rfl (fun ls hl => ?_)
    refine lv_iconst (v := 0) hx hb dX9_needNumber_21 (by decide) ?_
    refine lv_istore (lv' := [(5, .int 0), (4, .int 0), (3, .int tape_at_3), (0, .ref (xa 1)), (1, .int lo), (2, .int hi)]) hx hb dX9_needNumber_22 hl (by decide) rfl (fun ls hl => ?_)
    have key24 : ∀ (fu : Nat) (ii : Int32) (va : Int32) (ta : Int32) (H : Heap) (locs : List Loc) (ls : Array Slot), (h1 : sp_in ii 0 4) → (h2 : sp_in ta 0 600) → (h3 : tape_at ≤ ta) → (4 - ii.toInt).toNat < fu → va_P D vwCl [(o_tape xa tape_length tape_fault_1 tape_faultPlace_2 tape_wordFrom tape_wordTo ta), (aI (xa 2) (cy 0) 600 bytes)] H → va_D A [(o_tape xa tape_length tape_fault_1 tape_faultPlace_2 tape_wordFrom tape_wordTo ta), (aI (xa 2) (cy 0) 600 bytes)] → va_S A s.heap H locs → lv_has ls 6 [(5, .int ii), (4, .int va), (3, .int tape_at_3), (0, .ref (xa 1)), (1, .int lo), (2, .int hi)] → W p l e (headSpec v_sX9_needNumber (({ frames := 2, cells := 0, slots := 0, locals := 43 } : Room))).room s m [.ref (xa 1), .int lo, .int hi].toArray below meth c H locs 0 0 (MQ below (va_Qi (fun (r : Int32) (u : (Int32) × (Int32) × (Int32)) => (sp_in u.2.2 0 600) ∧ (tape_at ≤ u.2.2) ∧ (u.1 = 0 → tape_fault = 0) ∧ (u.1 = 0 → sp_in r lo hi) ∧ (¬ u.1 = 0 → r = (-1))) (fun u => gp_E D A [(o_tape xa tape_length u.1 u.2.1 tape_wordFrom tape_wordTo u.2.2), (aI (xa 2) (cy 0) 600 bytes)]) A) [.ref (xa 1), .int lo, .int hi].toArray s 0 0 A) (F0 m 24 ls []) := by
      intro fu
      induction fu with
      | zero => intro ii va ta H locs ls h1 h2 h3 hfu; exact absurd hfu (Nat.not_lt_zero _)
      | succ fu ih =>
        intro ii va ta H locs ls h1 h2 h3 hfu hP hD hS hl
        refine lv_iload hx hb dX9_needNumber_24 (lv_at hl 0 rfl) ?_
        refine lv_iconst (v := 4) hx hb dX9_needNumber_26 (by decide) ?_
        refine lv_icmp_ge (tgt := 73) hx hb dX9_needNumber_27 (by decide) (fun c_8 => ?_) (fun c_8 => ?_)
        · have cut118 : ∀ (tf : Int32) (tp : Int32) (H : Heap) (locs : List Loc) (ls : Array Slot), (hc1 : tf = 0 → sp_in va lo hi) → va_P D vwCl [(o_tape xa tape_length tf tp tape_wordFrom tape_wordTo ta), (aI (xa 2) (cy 0) 600 bytes)] H → va_D A [(o_tape xa tape_length tf tp tape_wordFrom tape_wordTo ta), (aI (xa 2) (cy 0) 600 bytes)] → va_S A s.heap H locs → lv_has ls 6 [(5, .int ii), (4, .int va), (3, .int tape_at_3), (0, .ref (xa 1)), (1, .int lo), (2, .int hi)] → W p l e (headSpec v_sX9_needNumber (({ frames := 2, cells := 0, slots := 0, locals := 43 } : Room))).room s m [.ref (xa 1), .int lo, .int hi].toArray below meth c H locs 0 0 (MQ below (va_Qi (fun (r : Int32) (u : (Int32) × (Int32) × (Int32)) => (sp_in u.2.2 0 600) ∧ (tape_at ≤ u.2.2) ∧ (u.1 = 0 → tape_fault = 0) ∧ (u.1 = 0 → sp_in r lo hi) ∧ (¬ u.1 = 0 → r = (-1))) (fun u => gp_E D A [(o_tape xa tape_length u.1 u.2.1 tape_wordFrom tape_wordTo u.2.2), (aI (xa 2) (cy 0) 600 bytes)]) A) [.ref (xa 1), .int lo, .int hi].toArray s 0 0 A) (F0 m 118 ls []) := by
            intro tf tp H locs ls hc1 hP hD hS hl
            refine lv_aload_n hx hb dX9_needNumber_118 rfl (lv_at hl 3 rfl) ?_
            refine va_get (D := D) (ci := 9) (v := .int tf) (C := RX9) (T := TX9) (N := 7) hx hb hts hiX9 hown hK hP 0 rfl rfl 1 (by decide) (hts (.fieldLink RX9 9 "GhostPane$Tape" "fault" "I") (List.mem_of_getElem? (i := 11) rfl)) (fun _ h9 => h9) rfl dX9_needNumber_119 ?_
            refine lv_if_ne (tgt := 130) hx hb dX9_needNumber_122 (by decide) (fun c_9 => ?_) (fun c_9 => ?_)
            · refine lv_iconst (v := (-1)) hx hb dX9_needNumber_130 (by decide) ?_
              exact W.iret (v := (-1)) hx hb hr (fun t ht hW => ⟨⟨(-1), ⟨tf, tp, ta⟩, rfl, ⟨h2, h3, (lf_sX9_needNumber_1 tape_fault lo hi tape_fault_1 va tf w_6 c_7 hc1 c_9), (lf_sX9_needNumber_2 lo hi va tf hc1 c_9), (lf_sX9_needNumber_3 lo hi va tf hc1 c_9)⟩, gp_end ht hP hD⟩, hS.F ht⟩) hS.2.2 dX9_needNumber_131
            · refine lv_iload hx hb dX9_needNumber_125 (lv_at hl 1 rfl) ?_
              refine lv_goto (tgt := 131) hx hb dX9_needNumber_127 (by decide) ?_
              exact W.iret (v := va) hx hb hr (fun t ht hW => ⟨⟨va, ⟨tf, tp, ta⟩, rfl, ⟨h2, h3, (lf_sX9_needNumber_4 tape_fault lo hi tape_fault_1 va tf w_6 c_7 hc1 c_9), hc1, (lf_sX9_needNumber_5 lo hi va tf hc1 c_9)⟩, gp_end ht hP hD⟩, hS.F ht⟩) hS.2.2 dX9_needNumber_131
          refine lv_aload_n hx hb dX9_needNumber_73 rfl (lv_at hl 3 rfl) ?_
          refine va_get (D := D) (ci := 9) (v := .int ta) (C := RX9) (T := TX9) (N := 7) hx hb hts hiX9 hown hK hP 0 rfl rfl 5 (by decide) (hts (.fieldLink RX9 25 "GhostPane$Tape" "at" "I") (List.mem_of_getElem? (i := 2) rfl)) (fun _ h9 => h9) rfl dX9_needNumber_74 ?_
          refine lv_iload_n hx hb dX9_needNumber_77 rfl (lv_at hl 2 rfl) ?_
          refine lv_icmp_eq (tgt := 88) hx hb dX9_needNumber_78 (by decide) (fun c_10 => ?_) (fun c_10 => ?_)
          · refine lv_aload_n hx hb dX9_needNumber_88 rfl (lv_at hl 3 rfl) ?_
            refine lv_iconst (v := 1) hx hb dX9_needNumber_89 (by decide) ?_
            refine lv_aload_n hx hb dX9_needNumber_90 rfl (lv_at hl 3 rfl) ?_
            refine va_get (D := D) (ci := 9) (v := .int ta) (C := RX9) (T := TX9) (N := 7) hx hb hts hiX9 hown hK hP 0 rfl rfl 5 (by decide) (hts (.fieldLink RX9 25 "GhostPane$Tape" "at" "I") (List.mem_of_getElem? (i := 2) rfl)) (fun _ h9 => h9) rfl dX9_needNumber_91 ?_
            have hPc := hP.sub (ws' := [(o_tape xa tape_length tape_fault_1 tape_faultPlace_2 tape_wordFrom tape_wordTo ta)]) [0] rfl
            have hDc := hD.sub (ws' := [(o_tape xa tape_length tape_fault_1 tape_faultPlace_2 tape_wordFrom tape_wordTo ta)]) [0] (by decide) rfl
            have hFc := va_free (wc := [(o_tape xa tape_length tape_fault_1 tape_faultPlace_2 tape_wordFrom tape_wordTo ta)]) hD hS hA [0] rfl
            refine va_callv (va_runV (As := [.int 1, .int ta]) (rest := []) ⟨hx, hb, hml, hown, hts⟩ (sX9_fail l D cy H.size xa tape_length tape_fault_1 tape_faultPlace_2 tape_wordFrom tape_wordTo ta 1 ta f_tape_length f_tape_wordFrom f_tape_wordTo h2 (show ¬ 1 = 0 by decide)) (cwV 2 hts g_sX9_needNumber_sX9_fail_1 rfl rfl rfl (by decide +kernel) ⟨Nat.le_of_ble_eq_true rfl, Nat.le_of_ble_eq_true rfl⟩) (gp_preV (RX9, TX9, 7) 9 0 hPc hDc hK hN rfl rfl) rfl rfl hl.1 rfl (lv_room (Nat.le_of_ble_eq_true rfl)) dX9_needNumber_94 ⟨Nat.le_of_ble_eq_true rfl, Nat.le_of_ble_eq_true rfl⟩) hS (fun q _ h => hFc q h) hFc (fun u t H locs ht hvm hw hB hz1 hk1 hS => ?_)
            obtain ⟨tape_fault_11, tape_faultPlace_12⟩ := u
            obtain ⟨hP, hD⟩ := gp_joinS (wc := [(o_tape xa tape_length tape_fault_1 tape_faultPlace_2 tape_wordFrom tape_wordTo ta)]) (w1 := [(o_tape xa tape_length tape_fault_11 tape_faultPlace_12 tape_wordFrom tape_wordTo ta)]) hP hD [0] rfl rfl hk1 ht hB
            have w_13 := hw
            have hP : va_P D vwCl [(o_tape xa tape_length tape_fault_11 tape_faultPlace_12 tape_wordFrom tape_wordTo ta), (aI (xa 2) (cy 0) 600 bytes)] H := hP
            have hD := gp_sD hP hD
            refine lv_goto (tgt := 118) hx hb dX9_needNumber_97 (by decide) ?_
            exact cut118 tape_fault_11 tape_faultPlace_12 H locs ls (lf_sX9_needNumber_6 lo hi va tape_fault_11 w_13) hP hD hS (lv_sub hl [0, 1, 2, 3, 4, 5] rfl)
          · refine lv_aload_n hx hb dX9_needNumber_81 rfl (lv_at hl 3 rfl) ?_
            have hPc := hP.sub (ws' := [(o_tape xa tape_length tape_fault_1 tape_faultPlace_2 tape_wordFrom tape_wordTo ta), (aI (xa 2) (cy 0) 600 bytes)]) [0, 1] rfl
            have hDc := hD.sub (ws' := [(o_tape xa tape_length tape_fault_1 tape_faultPlace_2 tape_wordFrom tape_wordTo ta), (aI (xa 2) (cy 0) 600 bytes)]) [0, 1] (by decide) rfl
            have hFc := va_free (wc := [(o_tape xa tape_length tape_fault_1 tape_faultPlace_2 tape_wordFrom tape_wordTo ta), (aI (xa 2) (cy 0) 600 bytes)]) hD hS hA [0, 1] rfl
            refine va_calli (va_runV (As := []) (rest := []) ⟨hx, hb, hml, hown, hts⟩ (sX9_isDigit2 l D cy H.size xa tape_length tape_fault_1 tape_faultPlace_2 tape_wordFrom tape_wordTo ta bytes f_tape_length f_tape_wordFrom f_tape_wordTo h2) (cwV 0 hts g_sX9_needNumber_sX9_isDigit2_2 rfl rfl rfl (by decide +kernel) ⟨Nat.le_of_ble_eq_true rfl, Nat.le_of_ble_eq_true rfl⟩) (gp_preV (RX9, TX9, 7) 9 0 hPc hDc hK hN rfl rfl) rfl rfl hl.1 rfl (lv_room (Nat.le_of_ble_eq_true rfl)) dX9_needNumber_82 ⟨Nat.le_of_ble_eq_true rfl, Nat.le_of_ble_eq_true rfl⟩) hS (fun q _ h => hFc q h) hFc (fun r_14 u t H locs ht hvm hw hB hz1 hk1 hS => ?_)
            have hP := gp_joinU (wc := [(o_tape xa tape_length tape_fault_1 tape_faultPlace_2 tape_wordFrom tape_wordTo ta), (aI (xa 2) (cy 0) 600 bytes)]) hP hD [0, 1] rfl hk1 ht hB
            obtain ⟨w_15, w_16⟩ := hw
            refine lv_if_eq (tgt := 100) hx hb dX9_needNumber_85 (by decide) (fun c_17 => ?_) (fun c_17 => ?_)
            · refine lv_iload hx hb dX9_needNumber_100 (lv_at hl 1 rfl) ?_
              refine lv_iload_n hx hb dX9_needNumber_102 rfl (lv_at hl 4 rfl) ?_
              refine lv_icmp_lt (tgt := 112) hx hb dX9_needNumber_103 (by decide) (fun c_18 => ?_) (fun c_18 => ?_)
              · refine lv_aload_n hx hb dX9_needNumber_112 rfl (lv_at hl 3 rfl) ?_
                refine lv_iconst (v := 2) hx hb dX9_needNumber_113 (by decide) ?_
                refine lv_iload_n hx hb dX9_needNumber_114 rfl (lv_at hl 2 rfl) ?_
                have hPc := hP.sub (ws' := [(o_tape xa tape_length tape_fault_1 tape_faultPlace_2 tape_wordFrom tape_wordTo ta)]) [0] rfl
                have hDc := hD.sub (ws' := [(o_tape xa tape_length tape_fault_1 tape_faultPlace_2 tape_wordFrom tape_wordTo ta)]) [0] (by decide) rfl
                have hFc := va_free (wc := [(o_tape xa tape_length tape_fault_1 tape_faultPlace_2 tape_wordFrom tape_wordTo ta)]) hD hS hA [0] rfl
                refine va_callv (va_runV (As := [.int 2, .int tape_at_3]) (rest := []) ⟨hx, hb, hml, hown, hts⟩ (sX9_fail l D cy H.size xa tape_length tape_fault_1 tape_faultPlace_2 tape_wordFrom tape_wordTo ta 2 tape_at_3 f_tape_length f_tape_wordFrom f_tape_wordTo h2 (show ¬ 2 = 0 by decide)) (cwV 2 hts g_sX9_needNumber_sX9_fail_1 rfl rfl rfl (by decide +kernel) ⟨Nat.le_of_ble_eq_true rfl, Nat.le_of_ble_eq_true rfl⟩) (gp_preV (RX9, TX9, 7) 9 0 hPc hDc hK hN rfl rfl) rfl rfl hl.1 rfl (lv_room (Nat.le_of_ble_eq_true rfl)) dX9_needNumber_115 ⟨Nat.le_of_ble_eq_true rfl, Nat.le_of_ble_eq_true rfl⟩) hS (fun q _ h => hFc q h) hFc (fun u t H locs ht hvm hw hB hz1 hk1 hS => ?_)
                obtain ⟨tape_fault_19, tape_faultPlace_20⟩ := u
                obtain ⟨hP, hD⟩ := gp_joinS (wc := [(o_tape xa tape_length tape_fault_1 tape_faultPlace_2 tape_wordFrom tape_wordTo ta)]) (w1 := [(o_tape xa tape_length tape_fault_19 tape_faultPlace_20 tape_wordFrom tape_wordTo ta)]) hP hD [0] rfl rfl hk1 ht hB
                have w_21 := hw
                have hP : va_P D vwCl [(o_tape xa tape_length tape_fault_19 tape_faultPlace_20 tape_wordFrom tape_wordTo ta), (aI (xa 2) (cy 0) 600 bytes)] H := hP
                have hD := gp_sD hP hD
                exact cut118 tape_fault_19 tape_faultPlace_20 H locs ls (lf_sX9_needNumber_7 lo hi va tape_fault_19 c_18 w_21) hP hD hS (lv_sub hl [0, 1, 2, 3, 4, 5] rfl)
              · refine lv_iload hx hb dX9_needNumber_106 (lv_at hl 1 rfl) ?_
                refine lv_iload_n hx hb dX9_needNumber_108 rfl (lv_at hl 5 rfl) ?_
                refine lv_icmp_le (tgt := 118) hx hb dX9_needNumber_109 (by decide) (fun c_22 => ?_) (fun c_22 => ?_)
                · exact cut118 tape_fault_1 tape_faultPlace_2 H locs ls (lf_sX9_needNumber_8 tape_fault lo hi tape_fault_1 va w_6 c_7 c_18 c_22) hP hD hS (lv_sub hl [0, 1, 2, 3, 4, 5] rfl)
                · refine lv_aload_n hx hb dX9_needNumber_112 rfl (lv_at hl 3 rfl) ?_
                  refine lv_iconst (v := 2) hx hb dX9_needNumber_113 (by decide) ?_
                  refine lv_iload_n hx hb dX9_needNumber_114 rfl (lv_at hl 2 rfl) ?_
                  have hPc := hP.sub (ws' := [(o_tape xa tape_length tape_fault_1 tape_faultPlace_2 tape_wordFrom tape_wordTo ta)]) [0] rfl
                  have hDc := hD.sub (ws' := [(o_tape xa tape_length tape_fault_1 tape_faultPlace_2 tape_wordFrom tape_wordTo ta)]) [0] (by decide) rfl
                  have hFc := va_free (wc := [(o_tape xa tape_length tape_fault_1 tape_faultPlace_2 tape_wordFrom tape_wordTo ta)]) hD hS hA [0] rfl
                  refine va_callv (va_runV (As := [.int 2, .int tape_at_3]) (rest := []) ⟨hx, hb, hml, hown, hts⟩ (sX9_fail l D cy H.size xa tape_length tape_fault_1 tape_faultPlace_2 tape_wordFrom tape_wordTo ta 2 tape_at_3 f_tape_length f_tape_wordFrom f_tape_wordTo h2 (show ¬ 2 = 0 by decide)) (cwV 2 hts g_sX9_needNumber_sX9_fail_1 rfl rfl rfl (by decide +kernel) ⟨Nat.le_of_ble_eq_true rfl, Nat.le_of_ble_eq_true rfl⟩) (gp_preV (RX9, TX9, 7) 9 0 hPc hDc hK hN rfl rfl) rfl rfl hl.1 rfl (lv_room (Nat.le_of_ble_eq_true rfl)) dX9_needNumber_115 ⟨Nat.le_of_ble_eq_true rfl, Nat.le_of_ble_eq_true rfl⟩) hS (fun q _ h => hFc q h) hFc (fun u t H locs ht hvm hw hB hz1 hk1 hS => ?_)
                  obtain ⟨tape_fault_23, tape_faultPlace_24⟩ := u
                  obtain ⟨hP, hD⟩ := gp_joinS (wc := [(o_tape xa tape_length tape_fault_1 tape_faultPlace_2 tape_wordFrom tape_wordTo ta)]) (w1 := [(o_tape xa tape_length tape_fault_23 tape_faultPlace_24 tape_wordFrom tape_wordTo ta)]) hP hD [0] rfl rfl hk1 ht hB
                  have w_25 := hw
                  have hP : va_P D vwCl [(o_tape xa tape_length tape_fault_23 tape_faultPlace_24 tape_wordFrom tape_wordTo ta), (aI (xa 2) (cy 0) 600 bytes)] H := hP
                  have hD := gp_sD hP hD
                  exact cut118 tape_fault_23 tape_faultPlace_24 H locs ls (lf_sX9_needNumber_9 lo hi va tape_fault_23 c_18 c_22 w_25) hP hD hS (lv_sub hl [0, 1, 2, 3, 4, 5] rfl)
            · refine lv_aload_n hx hb dX9_needNumber_88 rfl (lv_at hl 3 rfl) ?_
              refine lv_iconst (v := 1) hx hb dX9_needNumber_89 (by decide) ?_
              refine lv_aload_n hx hb dX9_needNumber_90 rfl (lv_at hl 3 rfl) ?_
              refine va_get (D := D) (ci := 9) (v := .int ta) (C := RX9) (T := TX9) (N := 7) hx hb hts hiX9 hown hK hP 0 rfl rfl 5 (by decide) (hts (.fieldLink RX9 25 "GhostPane$Tape" "at" "I") (List.mem_of_getElem? (i := 2) rfl)) (fun _ h9 => h9) rfl dX9_needNumber_91 ?_
              have hPc := hP.sub (ws' := [(o_tape xa tape_length tape_fault_1 tape_faultPlace_2 tape_wordFrom tape_wordTo ta)]) [0] rfl
              have hDc := hD.sub (ws' := [(o_tape xa tape_length tape_fault_1 tape_faultPlace_2 tape_wordFrom tape_wordTo ta)]) [0] (by decide) rfl
              have hFc := va_free (wc := [(o_tape xa tape_length tape_fault_1 tape_faultPlace_2 tape_wordFrom tape_wordTo ta)]) hD hS hA [0] rfl
              refine va_callv (va_runV (As := [.int 1, .int ta]) (rest := []) ⟨hx, hb, hml, hown, hts⟩ (sX9_fail l D cy H.size xa tape_length tape_fault_1 tape_faultPlace_2 tape_wordFrom tape_wordTo ta 1 ta f_tape_length f_tape_wordFrom f_tape_wordTo h2 (show ¬ 1 = 0 by decide)) (cwV 2 hts g_sX9_needNumber_sX9_fail_1 rfl rfl rfl (by decide +kernel) ⟨Nat.le_of_ble_eq_true rfl, Nat.le_of_ble_eq_true rfl⟩) (gp_preV (RX9, TX9, 7) 9 0 hPc hDc hK hN rfl rfl) rfl rfl hl.1 rfl (lv_room (Nat.le_of_ble_eq_true rfl)) dX9_needNumber_94 ⟨Nat.le_of_ble_eq_true rfl, Nat.le_of_ble_eq_true rfl⟩) hS (fun q _ h => hFc q h) hFc (fun u t H locs ht hvm hw hB hz1 hk1 hS => ?_)
              obtain ⟨tape_fault_26, tape_faultPlace_27⟩ := u
              obtain ⟨hP, hD⟩ := gp_joinS (wc := [(o_tape xa tape_length tape_fault_1 tape_faultPlace_2 tape_wordFrom tape_wordTo ta)]) (w1 := [(o_tape xa tape_length tape_fault_26 tape_faultPlace_27 tape_wordFrom tape_wordTo ta)]) hP hD [0] rfl rfl hk1 ht hB
              have w_28 := hw
              have hP : va_P D vwCl [(o_tape xa tape_length tape_fault_26 tape_faultPlace_27 tape_wordFrom tape_wordTo ta), (aI (xa 2) (cy 0) 600 bytes)] H := hP
              have hD := gp_sD hP hD
              refine lv_goto (tgt := 118) hx hb dX9_needNumber_97 (by decide) ?_
              exact cut118 tape_fault_26 tape_faultPlace_27 H locs ls (lf_sX9_needNumber_10 lo hi va tape_fault_26 w_28) hP hD hS (lv_sub hl [0, 1, 2, 3, 4, 5] rfl)
        · refine lv_aload_n hx hb dX9_needNumber_30 rfl (lv_at hl 3 rfl) ?_
          have hPc := hP.sub (ws' := [(o_tape xa tape_length tape_fault_1 tape_faultPlace_2 tape_wordFrom tape_wordTo ta), (aI (xa 2) (cy 0) 600 bytes)]) [0, 1] rfl
          have hDc := hD.sub (ws' := [(o_tape xa tape_length tape_fault_1 tape_faultPlace_2 tape_wordFrom tape_wordTo ta), (aI (xa 2) (cy 0) 600 bytes)]) [0, 1] (by decide) rfl
          have hFc := va_free (wc := [(o_tape xa tape_length tape_fault_1 tape_faultPlace_2 tape_wordFrom tape_wordTo ta), (aI (xa 2) (cy 0) 600 bytes)]) hD hS hA [0, 1] rfl
          refine va_calli (va_runV (As := []) (rest := []) ⟨hx, hb, hml, hown, hts⟩ (sX9_isDigit2 l D cy H.size xa tape_length tape_fault_1 tape_faultPlace_2 tape_wordFrom tape_wordTo ta bytes f_tape_length f_tape_wordFrom f_tape_wordTo h2) (cwV 0 hts g_sX9_needNumber_sX9_isDigit2_2 rfl rfl rfl (by decide +kernel) ⟨Nat.le_of_ble_eq_true rfl, Nat.le_of_ble_eq_true rfl⟩) (gp_preV (RX9, TX9, 7) 9 0 hPc hDc hK hN rfl rfl) rfl rfl hl.1 rfl (lv_room (Nat.le_of_ble_eq_true rfl)) dX9_needNumber_31 ⟨Nat.le_of_ble_eq_true rfl, Nat.le_of_ble_eq_true rfl⟩) hS (fun q _ h => hFc q h) hFc (fun r_29 u t H locs ht hvm hw hB hz1 hk1 hS => ?_)
          have hP := gp_joinU (wc := [(o_tape xa tape_length tape_fault_1 tape_faultPlace_2 tape_wordFrom tape_wordTo ta), (aI (xa 2) (cy 0) 600 bytes)]) hP hD [0, 1] rfl hk1 ht hB
          obtain ⟨w_30, w_31⟩ := hw
          refine lv_if_eq (tgt := 73) hx hb dX9_needNumber_34 (by decide) (fun c_32 => ?_) (fun c_32 => ?_)
          · have cut118 : ∀ (tf : Int32) (tp : Int32) (H : Heap) (locs : List Loc) (ls : Array Slot), (hc1 : tf = 0 → sp_in va lo hi) → va_P D vwCl [(o_tape xa tape_length tf tp tape_wordFrom tape_wordTo ta), (aI (xa 2) (cy 0) 600 bytes)] H → va_D A [(o_tape xa tape_length tf tp tape_wordFrom tape_wordTo ta), (aI (xa 2) (cy 0) 600 bytes)] → va_S A s.heap H locs → lv_has ls 6 [(5, .int ii), (4, .int va), (3, .int tape_at_3), (0, .ref (xa 1)), (1, .int lo), (2, .int hi)] → W p l e (headSpec v_sX9_needNumber (({ frames := 2, cells := 0, slots := 0, locals := 43 } : Room))).room s m [.ref (xa 1), .int lo, .int hi].toArray below meth c H locs 0 0 (MQ below (va_Qi (fun (r : Int32) (u : (Int32) × (Int32) × (Int32)) => (sp_in u.2.2 0 600) ∧ (tape_at ≤ u.2.2) ∧ (u.1 = 0 → tape_fault = 0) ∧ (u.1 = 0 → sp_in r lo hi) ∧ (¬ u.1 = 0 → r = (-1))) (fun u => gp_E D A [(o_tape xa tape_length u.1 u.2.1 tape_wordFrom tape_wordTo u.2.2), (aI (xa 2) (cy 0) 600 bytes)]) A) [.ref (xa 1), .int lo, .int hi].toArray s 0 0 A) (F0 m 118 ls []) := by
              intro tf tp H locs ls hc1 hP hD hS hl
              refine lv_aload_n hx hb dX9_needNumber_118 rfl (lv_at hl 3 rfl) ?_
              refine va_get (D := D) (ci := 9) (v := .int tf) (C := RX9) (T := TX9) (N := 7) hx hb hts hiX9 hown hK hP 0 rfl rfl 1 (by decide) (hts (.fieldLink RX9 9 "GhostPane$Tape" "fault" "I") (List.mem_of_getElem? (i := 11) rfl)) (fun _ h9 => h9) rfl dX9_needNumber_119 ?_
              refine lv_if_ne (tgt := 130) hx hb dX9_needNumber_122 (by decide) (fun c_33 => ?_) (fun c_33 => ?_)
              · refine lv_iconst (v := (-1)) hx hb dX9_needNumber_130 (by decide) ?_
                exact W.iret (v := (-1)) hx hb hr (fun t ht hW => ⟨⟨(-1), ⟨tf, tp, ta⟩, rfl, ⟨h2, h3, (lf_sX9_needNumber_11 tape_fault lo hi tape_fault_1 va tf w_6 c_7 hc1 c_33), (lf_sX9_needNumber_12 lo hi va tf hc1 c_33), (lf_sX9_needNumber_13 lo hi va tf hc1 c_33)⟩, gp_end ht hP hD⟩, hS.F ht⟩) hS.2.2 dX9_needNumber_131
              · refine lv_iload hx hb dX9_needNumber_125 (lv_at hl 1 rfl) ?_
                refine lv_goto (tgt := 131) hx hb dX9_needNumber_127 (by decide) ?_
                exact W.iret (v := va) hx hb hr (fun t ht hW => ⟨⟨va, ⟨tf, tp, ta⟩, rfl, ⟨h2, h3, (lf_sX9_needNumber_14 tape_fault lo hi tape_fault_1 va tf w_6 c_7 hc1 c_33), hc1, (lf_sX9_needNumber_15 lo hi va tf hc1 c_33)⟩, gp_end ht hP hD⟩, hS.F ht⟩) hS.2.2 dX9_needNumber_131
            refine lv_aload_n hx hb dX9_needNumber_73 rfl (lv_at hl 3 rfl) ?_
            refine va_get (D := D) (ci := 9) (v := .int ta) (C := RX9) (T := TX9) (N := 7) hx hb hts hiX9 hown hK hP 0 rfl rfl 5 (by decide) (hts (.fieldLink RX9 25 "GhostPane$Tape" "at" "I") (List.mem_of_getElem? (i := 2) rfl)) (fun _ h9 => h9) rfl dX9_needNumber_74 ?_
            refine lv_iload_n hx hb dX9_needNumber_77 rfl (lv_at hl 2 rfl) ?_
            refine lv_icmp_eq (tgt := 88) hx hb dX9_needNumber_78 (by decide) (fun c_34 => ?_) (fun c_34 => ?_)
            · refine lv_aload_n hx hb dX9_needNumber_88 rfl (lv_at hl 3 rfl) ?_
              refine lv_iconst (v := 1) hx hb dX9_needNumber_89 (by decide) ?_
              refine lv_aload_n hx hb dX9_needNumber_90 rfl (lv_at hl 3 rfl) ?_
              refine va_get (D := D) (ci := 9) (v := .int ta) (C := RX9) (T := TX9) (N := 7) hx hb hts hiX9 hown hK hP 0 rfl rfl 5 (by decide) (hts (.fieldLink RX9 25 "GhostPane$Tape" "at" "I") (List.mem_of_getElem? (i := 2) rfl)) (fun _ h9 => h9) rfl dX9_needNumber_91 ?_
              have hPc := hP.sub (ws' := [(o_tape xa tape_length tape_fault_1 tape_faultPlace_2 tape_wordFrom tape_wordTo ta)]) [0] rfl
              have hDc := hD.sub (ws' := [(o_tape xa tape_length tape_fault_1 tape_faultPlace_2 tape_wordFrom tape_wordTo ta)]) [0] (by decide) rfl
              have hFc := va_free (wc := [(o_tape xa tape_length tape_fault_1 tape_faultPlace_2 tape_wordFrom tape_wordTo ta)]) hD hS hA [0] rfl
              refine va_callv (va_runV (As := [.int 1, .int ta]) (rest := []) ⟨hx, hb, hml, hown, hts⟩ (sX9_fail l D cy H.size xa tape_length tape_fault_1 tape_faultPlace_2 tape_wordFrom tape_wordTo ta 1 ta f_tape_length f_tape_wordFrom f_tape_wordTo h2 (show ¬ 1 = 0 by decide)) (cwV 2 hts g_sX9_needNumber_sX9_fail_1 rfl rfl rfl (by decide +kernel) ⟨Nat.le_of_ble_eq_true rfl, Nat.le_of_ble_eq_true rfl⟩) (gp_preV (RX9, TX9, 7) 9 0 hPc hDc hK hN rfl rfl) rfl rfl hl.1 rfl (lv_room (Nat.le_of_ble_eq_true rfl)) dX9_needNumber_94 ⟨Nat.le_of_ble_eq_true rfl, Nat.le_of_ble_eq_true rfl⟩) hS (fun q _ h => hFc q h) hFc (fun u t H locs ht hvm hw hB hz1 hk1 hS => ?_)
              obtain ⟨tape_fault_35, tape_faultPlace_36⟩ := u
              obtain ⟨hP, hD⟩ := gp_joinS (wc := [(o_tape xa tape_length tape_fault_1 tape_faultPlace_2 tape_wordFrom tape_wordTo ta)]) (w1 := [(o_tape xa tape_length tape_fault_35 tape_faultPlace_36 tape_wordFrom tape_wordTo ta)]) hP hD [0] rfl rfl hk1 ht hB
              have w_37 := hw
              have hP : va_P D vwCl [(o_tape xa tape_length tape_fault_35 tape_faultPlace_36 tape_wordFrom tape_wordTo ta), (aI (xa 2) (cy 0) 600 bytes)] H := hP
              have hD := gp_sD hP hD
              refine lv_goto (tgt := 118) hx hb dX9_needNumber_97 (by decide) ?_
              exact cut118 tape_fault_35 tape_faultPlace_36 H locs ls (lf_sX9_needNumber_16 lo hi va tape_fault_35 w_37) hP hD hS (lv_sub hl [0, 1, 2, 3, 4, 5] rfl)
            · refine lv_aload_n hx hb dX9_needNumber_81 rfl (lv_at hl 3 rfl) ?_
              have hPc := hP.sub (ws' := [(o_tape xa tape_length tape_fault_1 tape_faultPlace_2 tape_wordFrom tape_wordTo ta), (aI (xa 2) (cy 0) 600 bytes)]) [0, 1] rfl
              have hDc := hD.sub (ws' := [(o_tape xa tape_length tape_fault_1 tape_faultPlace_2 tape_wordFrom tape_wordTo ta), (aI (xa 2) (cy 0) 600 bytes)]) [0, 1] (by decide) rfl
              have hFc := va_free (wc := [(o_tape xa tape_length tape_fault_1 tape_faultPlace_2 tape_wordFrom tape_wordTo ta), (aI (xa 2) (cy 0) 600 bytes)]) hD hS hA [0, 1] rfl
              refine va_calli (va_runV (As := []) (rest := []) ⟨hx, hb, hml, hown, hts⟩ (sX9_isDigit2 l D cy H.size xa tape_length tape_fault_1 tape_faultPlace_2 tape_wordFrom tape_wordTo ta bytes f_tape_length f_tape_wordFrom f_tape_wordTo h2) (cwV 0 hts g_sX9_needNumber_sX9_isDigit2_2 rfl rfl rfl (by decide +kernel) ⟨Nat.le_of_ble_eq_true rfl, Nat.le_of_ble_eq_true rfl⟩) (gp_preV (RX9, TX9, 7) 9 0 hPc hDc hK hN rfl rfl) rfl rfl hl.1 rfl (lv_room (Nat.le_of_ble_eq_true rfl)) dX9_needNumber_82 ⟨Nat.le_of_ble_eq_true rfl, Nat.le_of_ble_eq_true rfl⟩) hS (fun q _ h => hFc q h) hFc (fun r_38 u t H locs ht hvm hw hB hz1 hk1 hS => ?_)
              have hP := gp_joinU (wc := [(o_tape xa tape_length tape_fault_1 tape_faultPlace_2 tape_wordFrom tape_wordTo ta), (aI (xa 2) (cy 0) 600 bytes)]) hP hD [0, 1] rfl hk1 ht hB
              obtain ⟨w_39, w_40⟩ := hw
              refine lv_if_eq (tgt := 100) hx hb dX9_needNumber_85 (by decide) (fun c_41 => ?_) (fun c_41 => ?_)
              · refine lv_iload hx hb dX9_needNumber_100 (lv_at hl 1 rfl) ?_
                refine lv_iload_n hx hb dX9_needNumber_102 rfl (lv_at hl 4 rfl) ?_
                refine lv_icmp_lt (tgt := 112) hx hb dX9_needNumber_103 (by decide) (fun c_42 => ?_) (fun c_42 => ?_)
                · refine lv_aload_n hx hb dX9_needNumber_112 rfl (lv_at hl 3 rfl) ?_
                  refine lv_iconst (v := 2) hx hb dX9_needNumber_113 (by decide) ?_
                  refine lv_iload_n hx hb dX9_needNumber_114 rfl (lv_at hl 2 rfl) ?_
                  have hPc := hP.sub (ws' := [(o_tape xa tape_length tape_fault_1 tape_faultPlace_2 tape_wordFrom tape_wordTo ta)]) [0] rfl
                  have hDc := hD.sub (ws' := [(o_tape xa tape_length tape_fault_1 tape_faultPlace_2 tape_wordFrom tape_wordTo ta)]) [0] (by decide) rfl
                  have hFc := va_free (wc := [(o_tape xa tape_length tape_fault_1 tape_faultPlace_2 tape_wordFrom tape_wordTo ta)]) hD hS hA [0] rfl
                  refine va_callv (va_runV (As := [.int 2, .int tape_at_3]) (rest := []) ⟨hx, hb, hml, hown, hts⟩ (sX9_fail l D cy H.size xa tape_length tape_fault_1 tape_faultPlace_2 tape_wordFrom tape_wordTo ta 2 tape_at_3 f_tape_length f_tape_wordFrom f_tape_wordTo h2 (show ¬ 2 = 0 by decide)) (cwV 2 hts g_sX9_needNumber_sX9_fail_1 rfl rfl rfl (by decide +kernel) ⟨Nat.le_of_ble_eq_true rfl, Nat.le_of_ble_eq_true rfl⟩) (gp_preV (RX9, TX9, 7) 9 0 hPc hDc hK hN rfl rfl) rfl rfl hl.1 rfl (lv_room (Nat.le_of_ble_eq_true rfl)) dX9_needNumber_115 ⟨Nat.le_of_ble_eq_true rfl, Nat.le_of_ble_eq_true rfl⟩) hS (fun q _ h => hFc q h) hFc (fun u t H locs ht hvm hw hB hz1 hk1 hS => ?_)
                  obtain ⟨tape_fault_43, tape_faultPlace_44⟩ := u
                  obtain ⟨hP, hD⟩ := gp_joinS (wc := [(o_tape xa tape_length tape_fault_1 tape_faultPlace_2 tape_wordFrom tape_wordTo ta)]) (w1 := [(o_tape xa tape_length tape_fault_43 tape_faultPlace_44 tape_wordFrom tape_wordTo ta)]) hP hD [0] rfl rfl hk1 ht hB
                  have w_45 := hw
                  have hP : va_P D vwCl [(o_tape xa tape_length tape_fault_43 tape_faultPlace_44 tape_wordFrom tape_wordTo ta), (aI (xa 2) (cy 0) 600 bytes)] H := hP
                  have hD := gp_sD hP hD
                  exact cut118 tape_fault_43 tape_faultPlace_44 H locs ls (lf_sX9_needNumber_17 lo hi va tape_fault_43 c_42 w_45) hP hD hS (lv_sub hl [0, 1, 2, 3, 4, 5] rfl)
                · refine lv_iload hx hb dX9_needNumber_106 (lv_at hl 1 rfl) ?_
                  refine lv_iload_n hx hb dX9_needNumber_108 rfl (lv_at hl 5 rfl) ?_
                  refine lv_icmp_le (tgt := 118) hx hb dX9_needNumber_109 (by decide) (fun c_46 => ?_) (fun c_46 => ?_)
                  · exact cut118 tape_fault_1 tape_faultPlace_2 H locs ls (lf_sX9_needNumber_18 tape_fault lo hi tape_fault_1 va w_6 c_7 c_42 c_46) hP hD hS (lv_sub hl [0, 1, 2, 3, 4, 5] rfl)
                  · refine lv_aload_n hx hb dX9_needNumber_112 rfl (lv_at hl 3 rfl) ?_
                    refine lv_iconst (v := 2) hx hb dX9_needNumber_113 (by decide) ?_
                    refine lv_iload_n hx hb dX9_needNumber_114 rfl (lv_at hl 2 rfl) ?_
                    have hPc := hP.sub (ws' := [(o_tape xa tape_length tape_fault_1 tape_faultPlace_2 tape_wordFrom tape_wordTo ta)]) [0] rfl
                    have hDc := hD.sub (ws' := [(o_tape xa tape_length tape_fault_1 tape_faultPlace_2 tape_wordFrom tape_wordTo ta)]) [0] (by decide) rfl
                    have hFc := va_free (wc := [(o_tape xa tape_length tape_fault_1 tape_faultPlace_2 tape_wordFrom tape_wordTo ta)]) hD hS hA [0] rfl
                    refine va_callv (va_runV (As := [.int 2, .int tape_at_3]) (rest := []) ⟨hx, hb, hml, hown, hts⟩ (sX9_fail l D cy H.size xa tape_length tape_fault_1 tape_faultPlace_2 tape_wordFrom tape_wordTo ta 2 tape_at_3 f_tape_length f_tape_wordFrom f_tape_wordTo h2 (show ¬ 2 = 0 by decide)) (cwV 2 hts g_sX9_needNumber_sX9_fail_1 rfl rfl rfl (by decide +kernel) ⟨Nat.le_of_ble_eq_true rfl, Nat.le_of_ble_eq_true rfl⟩) (gp_preV (RX9, TX9, 7) 9 0 hPc hDc hK hN rfl rfl) rfl rfl hl.1 rfl (lv_room (Nat.le_of_ble_eq_true rfl)) dX9_needNumber_115 ⟨Nat.le_of_ble_eq_true rfl, Nat.le_of_ble_eq_true rfl⟩) hS (fun q _ h => hFc q h) hFc (fun u t H locs ht hvm hw hB hz1 hk1 hS => ?_)
                    obtain ⟨tape_fault_47, tape_faultPlace_48⟩ := u
                    obtain ⟨hP, hD⟩ := gp_joinS (wc := [(o_tape xa tape_length tape_fault_1 tape_faultPlace_2 tape_wordFrom tape_wordTo ta)]) (w1 := [(o_tape xa tape_length tape_fault_47 tape_faultPlace_48 tape_wordFrom tape_wordTo ta)]) hP hD [0] rfl rfl hk1 ht hB
                    have w_49 := hw
                    have hP : va_P D vwCl [(o_tape xa tape_length tape_fault_47 tape_faultPlace_48 tape_wordFrom tape_wordTo ta), (aI (xa 2) (cy 0) 600 bytes)] H := hP
                    have hD := gp_sD hP hD
                    exact cut118 tape_fault_47 tape_faultPlace_48 H locs ls (lf_sX9_needNumber_19 lo hi va tape_fault_47 c_42 c_46 w_49) hP hD hS (lv_sub hl [0, 1, 2, 3, 4, 5] rfl)
              · refine lv_aload_n hx hb dX9_needNumber_88 rfl (lv_at hl 3 rfl) ?_
                refine lv_iconst (v := 1) hx hb dX9_needNumber_89 (by decide) ?_
                refine lv_aload_n hx hb dX9_needNumber_90 rfl (lv_at hl 3 rfl) ?_
                refine va_get (D := D) (ci := 9) (v := .int ta) (C := RX9) (T := TX9) (N := 7) hx hb hts hiX9 hown hK hP 0 rfl rfl 5 (by decide) (hts (.fieldLink RX9 25 "GhostPane$Tape" "at" "I") (List.mem_of_getElem? (i := 2) rfl)) (fun _ h9 => h9) rfl dX9_needNumber_91 ?_
                have hPc := hP.sub (ws' := [(o_tape xa tape_length tape_fault_1 tape_faultPlace_2 tape_wordFrom tape_wordTo ta)]) [0] rfl
                have hDc := hD.sub (ws' := [(o_tape xa tape_length tape_fault_1 tape_faultPlace_2 tape_wordFrom tape_wordTo ta)]) [0] (by decide) rfl
                have hFc := va_free (wc := [(o_tape xa tape_length tape_fault_1 tape_faultPlace_2 tape_wordFrom tape_wordTo ta)]) hD hS hA [0] rfl
                refine va_callv (va_runV (As := [.int 1, .int ta]) (rest := []) ⟨hx, hb, hml, hown, hts⟩ (sX9_fail l D cy H.size xa tape_length tape_fault_1 tape_faultPlace_2 tape_wordFrom tape_wordTo ta 1 ta f_tape_length f_tape_wordFrom f_tape_wordTo h2 (show ¬ 1 = 0 by decide)) (cwV 2 hts g_sX9_needNumber_sX9_fail_1 rfl rfl rfl (by decide +kernel) ⟨Nat.le_of_ble_eq_true rfl, Nat.le_of_ble_eq_true rfl⟩) (gp_preV (RX9, TX9, 7) 9 0 hPc hDc hK hN rfl rfl) rfl rfl hl.1 rfl (lv_room (Nat.le_of_ble_eq_true rfl)) dX9_needNumber_94 ⟨Nat.le_of_ble_eq_true rfl, Nat.le_of_ble_eq_true rfl⟩) hS (fun q _ h => hFc q h) hFc (fun u t H locs ht hvm hw hB hz1 hk1 hS => ?_)
                obtain ⟨tape_fault_50, tape_faultPlace_51⟩ := u
                obtain ⟨hP, hD⟩ := gp_joinS (wc := [(o_tape xa tape_length tape_fault_1 tape_faultPlace_2 tape_wordFrom tape_wordTo ta)]) (w1 := [(o_tape xa tape_length tape_fault_50 tape_faultPlace_51 tape_wordFrom tape_wordTo ta)]) hP hD [0] rfl rfl hk1 ht hB
                have w_52 := hw
                have hP : va_P D vwCl [(o_tape xa tape_length tape_fault_50 tape_faultPlace_51 tape_wordFrom tape_wordTo ta), (aI (xa 2) (cy 0) 600 bytes)] H := hP
                have hD := gp_sD hP hD
                refine lv_goto (tgt := 118) hx hb dX9_needNumber_97 (by decide) ?_
                exact cut118 tape_fault_50 tape_faultPlace_51 H locs ls (lf_sX9_needNumber_20 lo hi va tape_fault_50 w_52) hP hD hS (lv_sub hl [0, 1, 2, 3, 4, 5] rfl)
          · refine lv_bipush (v := 10) hx hb dX9_needNumber_37 (by decide) ?_
            refine lv_iload hx hb dX9_needNumber_39 (lv_at hl 1 rfl) ?_
            refine lv_imul hx hb dX9_needNumber_41 ?_
            refine gp_fi (fun y_53 => ?_)
            refine lv_aload_n hx hb dX9_needNumber_42 rfl (lv_at hl 3 rfl) ?_
            refine va_get (D := D) (ci := 9) (v := .ref (xa 2)) (C := RX9) (T := TX9) (N := 7) hx hb hts hiX9 hown hK hP 0 rfl rfl 6 (by decide) (hts (.fieldLink RX9 18 "GhostPane$Tape" "bytes" "[B") (List.mem_of_getElem? (i := 5) rfl)) (fun _ h9 => h9) rfl dX9_needNumber_43 ?_
            refine lv_aload_n hx hb dX9_needNumber_46 rfl (lv_at hl 3 rfl) ?_
            refine va_get (D := D) (ci := 9) (v := .int ta) (C := RX9) (T := TX9) (N := 7) hx hb hts hiX9 hown hK hP 0 rfl rfl 5 (by decide) (hts (.fieldLink RX9 25 "GhostPane$Tape" "at" "I") (List.mem_of_getElem? (i := 2) rfl)) (fun _ h9 => h9) rfl dX9_needNumber_47 ?_
            refine va_bald hx hb hK hP 1 0 rfl rfl (gp_in (hi := 599) (lf_sX9_needNumber_21 tape_length tape_at tape_at_3 ta r_29 f_tape_length f_tape_at w_4 w_5 h2 h3 w_30 w_31 c_32) (by decide)) dX9_needNumber_50 ?_
            refine gp_fi (fun y_54 => ?_)
            refine lv_iadd hx hb dX9_needNumber_51 ?_
            refine gp_fi (fun y_55 => ?_)
            refine lv_bipush (v := 48) hx hb dX9_needNumber_52 (by decide) ?_
            refine lv_isub hx hb dX9_needNumber_54 ?_
            refine gp_fi (fun y_56 => ?_)
            refine lv_istore (lv' := [(4, .int y_56), (5, .int ii), (3, .int tape_at_3), (0, .ref (xa 1)), (1, .int lo), (2, .int hi)]) hx hb dX9_needNumber_55 hl (by decide) rfl (fun ls hl => ?_)
            refine lv_aload_n hx hb dX9_needNumber_57 rfl (lv_at hl 3 rfl) ?_
            refine lv_dup hx hb dX9_needNumber_58 rfl ?_
            refine va_get (D := D) (ci := 9) (v := .int ta) (C := RX9) (T := TX9) (N := 7) hx hb hts hiX9 hown hK hP 0 rfl rfl 5 (by decide) (hts (.fieldLink RX9 25 "GhostPane$Tape" "at" "I") (List.mem_of_getElem? (i := 2) rfl)) (fun _ h9 => h9) rfl dX9_needNumber_59 ?_
            refine lv_iconst (v := 1) hx hb dX9_needNumber_62 (by decide) ?_
            refine lv_iadd hx hb dX9_needNumber_63 ?_
            refine va_put (D := D) (ci := 9) (v := .int (ta + 1)) (ty := .int) (C := RX9) (T := TX9) (N := 7) hx hb hts hiX9 tyX9 tyX9_ok nmX9 hown hK hP hD hS 0 rfl rfl 5 (by decide) (hts (.fieldLink RX9 25 "GhostPane$Tape" "at" "I") (List.mem_of_getElem? (i := 2) rfl)) (fun _ h9 => h9) rfl (by decide +kernel) rfl rfl (Nat.le_of_ble_eq_true rfl) dX9_needNumber_64 (fun H locs hP hD hS => ?_)
            have hP : va_P D vwCl [(o_tape xa tape_length tape_fault_1 tape_faultPlace_2 tape_wordFrom tape_wordTo (ta + 1)), (aI (xa 2) (cy 0) 600 bytes)] H := hP
            have hD := gp_sD hP hD
            refine lv_iinc (v := (ii + 1)) (lv' := [(5, .int (ii + 1)), (4, .int y_56), (3, .int tape_at_3), (0, .ref (xa 1)), (1, .int lo), (2, .int hi)]) hx hb dX9_needNumber_67 hl (k := 1) rfl rfl (by decide) rfl (fun ls hl => ?_)
            refine lv_goto (tgt := 24) hx hb dX9_needNumber_70 (by decide) ?_
            exact ih (ii + 1) y_56 (ta + 1) H locs ls (lf_sX9_needNumber_22 ii h1 c_8) (lf_sX9_needNumber_23 tape_length tape_at tape_at_3 ta r_29 f_tape_length f_tape_at w_4 w_5 h2 h3 w_30 w_31 c_32) (lf_sX9_needNumber_24 tape_length tape_at tape_at_3 ta r_29 f_tape_length f_tape_at w_4 w_5 h2 h3 w_30 w_31 c_32) (Nat.lt_of_lt_of_le (gp_mdec (b := 4) (lf_sX9_needNumber_25 ii h1 c_8)) (Nat.le_of_lt_succ hfu)) hP hD hS (lv_sub hl [0, 1, 2, 3, 4, 5] rfl)
    exact key24 ((4 - (0 : Int32).toInt).toNat + 1) 0 0 tape_at_3 H locs ls (show sp_in 0 0 4 by decide) w_4 w_5 (Nat.lt_succ_self _) hP hD hS (lv_sub hl [0, 1, 2, 3, 4, 5] rfl)
  · refine lv_iconst (v := (-1)) hx hb dX9_needNumber_11 (by decide) ?_
    exact W.iret (v := (-1)) hx hb hr (fun t ht hW => ⟨⟨(-1), ⟨tape_fault_1, tape_faultPlace_2, tape_at_3⟩, rfl, ⟨w_4, w_5, w_6, (lf_sX9_needNumber_26 tape_fault lo hi tape_fault_1 w_6 c_7), (lf_sX9_needNumber_27 tape_fault tape_fault_1 w_6 c_7)⟩, gp_end ht hP hD⟩, hS.F ht⟩) hS.2.2 dX9_needNumber_12
