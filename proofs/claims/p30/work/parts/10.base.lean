/-! own rows: the worlds that contracts speak of, what is left behind a call, numbers by another name -/
/-- the links to private members of a nest mate, and the classes of arrays of references: no words of a list, so they are carried -/
def gp_nw : List (String × Nat × MethodName × String) := [(RX11, 9, yX9_init, RX11), (RX6, 11, yX2_init, RX11), (RX6, 31, yX0_init, RX11), (RX11, 34, yX7_init, RX11), (RX8, 21, yX3_init, RX11), (RX11, 50, yX4_init, RX11), (RX11, 57, yX5_init, RX11), (RX11, 64, yX1_init, RX11), (RX4, 41, yX11_isStretch, RX11), (RX1, 55, yX11_bit, RX11)]
def gp_N (U : State) : Prop := (∀ q ∈ gp_nw, va_Nw (.methodLinkNest q.1 q.2.1 q.2.2.1 q.2.2.2) U) ∧ va_AO "GhostPane$Body" U ∧ va_AOA .int U ∧ va_AOA .long U
theorem gp_AOA_moved {t : FieldType} {u U : State} (hvm : u.vm.Alike U.vm) (h : va_AOA t u) : va_AOA t U := arrayOver_alikeB hvm h
theorem gp_N_moved {s U : State} (hW : s.WarmedH U.vm) (h : gp_N s) : gp_N U := ⟨fun q hq => va_Nw.warmM hW (h.1 q hq), va_AO.moved hW.alike h.2.1, gp_AOA_moved hW.alike h.2.2.1, gp_AOA_moved hW.alike h.2.2.2⟩
theorem gp_N_same {s U : State} (hW : s.vm = U.vm) (h : gp_N s) : gp_N U := ⟨fun q hq => va_Nw.same rfl hW (h.1 q hq), va_AO.moved (by rw [hW]; exact Vm.Alike.refl _) h.2.1, gp_AOA_moved (by rw [hW]; exact Vm.Alike.refl _) h.2.2.1, gp_AOA_moved (by rw [hW]; exact Vm.Alike.refl _) h.2.2.2⟩
/-- the array classes, by number: byte, int, long, boolean, char, Body, int[], long[] -/
abbrev gp_T (cy : Nat → ClassId) : List (ClassId × FieldType) := [(cy 0, .byte), (cy 1, .int), (cy 2, .long), (cy 3, .boolean), (cy 4, .char), (cy 5, .object "GhostPane$Body"), (cy 6, .array .int), (cy 7, .array .long)]
def gp_B (D : va_G) (cy : Nat → ClassId) (sz : Nat) (ws : va_W) : State → Prop := fun U => U.heap.size = sz ∧ va_P D vwCl ws U.heap ∧ va_K D vwCl (gp_T cy) U ∧ va_D (fun _ => True) ws ∧ gp_N U
def gp_E (D : va_G) (A : Nat → Prop) (ws : va_W) : State → Prop := fun t => va_P D vwCl ws t.heap ∧ va_D A ws
theorem gp_blind {D : va_G} {cy : Nat → ClassId} {sz : Nat} {ws : va_W} {av : List Value} : FrameBlind (va_Pc av (gp_B D cy sz ws)) := fun a U g mk q => ⟨q.1, q.2.1, q.2.2.1, va_K.moved (u := U) (U := U.calling g mk a) (Vm.Alike.refl U.vm) q.2.2.2.1, q.2.2.2.2.1, gp_N_same (s := U) (U := U.calling g mk a) rfl q.2.2.2.2.2⟩
theorem gp_preS {s : State} {H : Heap} {D : va_G} {cy : Nat → ClassId} {ws : va_W} {A : Nat → Prop} {As : List Value} (hP : va_P D vwCl ws H) (hD : va_D A ws) (hK : va_K D vwCl (gp_T cy) s) (hN : gp_N s) : PreS s H (va_Pc As (gp_B D cy H.size ws)) As := ⟨gp_blind, fun U hU hW => ⟨rfl, by rw [hU], by rw [hU]; exact hP, va_K.moved hW.alike hK, hD.weaken (fun _ _ _ _ => trivial), gp_N_moved hW hN⟩⟩
theorem gp_preV {s : State} {H : Heap} {D : va_G} {cy : Nat → ClassId} {ws : va_W} {A : Nat → Prop} {As : List Value} {b : Nat} (q : vw_C) (ci q0 : Nat) {fs : List Value} (hP : va_P D vwCl ws H) (hD : va_D A ws) (hK : va_K D vwCl (gp_T cy) s) (hN : gp_N s) (hc : vwCl[ci]? = some q) (he : ws[q0]? = some (b, .inr (ci, fs))) : PreV s H q.1 b (va_Pc (.ref b :: As) (gp_B D cy H.size ws)) As := ⟨gp_blind, va_recv hK hP hc he, fun U hU hW => ⟨rfl, by rw [hU], by rw [hU]; exact hP, va_K.moved hW.alike hK, hD.weaken (fun _ _ _ _ => trivial), gp_N_moved hW hN⟩⟩
theorem gp_join {A0 : Nat → Prop} {D : va_G} {ws wc wr w1 : va_W} {H H1 : Heap} {t : State} (hP : va_P D vwCl ws H) (hD : va_D A0 ws) (isC isR : List Nat) (hC : isC.map (fun i => ws[i]?) = wc.map some) (hR : isR.map (fun i => ws[i]?) = wr.map some) (hn : va_nd isR = true) (hdis : ∀ i ∈ isR, i ∉ isC)
    (hk : ∀ q : Nat, q < H.size → ¬ va_A wc H.size q → H1[q]? = H[q]?) (hF : ∀ q, va_A wc H.size q → A0 q) (ht : t.heap = H1) (hB : gp_E D (va_A wc H.size) w1 t) : va_P D vwCl (wr ++ w1) H1 ∧ va_D A0 (wr ++ w1) := by
  subst ht
  exact va_join hP hD isC isR hC hR hn hdis hk hF hB.1 hB.2
theorem gp_end {D : va_G} {A : Nat → Prop} {ws : va_W} {H : Heap} {t : State} (ht : t.heap = H) (hP : va_P D vwCl ws H) (hD : va_D A ws) : gp_E D A ws t := ⟨by rw [ht]; exact hP, hD⟩
/-- a contract out of the walk of the body -/
theorem gp_met {l : Launch} {y : MethodName} {ws ws' : List Cond} {rm : Room} {av : List Value} {D : va_G} {cy : Nat → ClassId} {sz : Nat} {W0 : va_W} {Qc : (Nat → Prop) → Array Value → State → Outcome → State → Prop} {mc ms : Nat} {cc : ByteArray} {maxL : Nat} {ret : Option FieldType} (hy : plainName y.cls = true) (hw : ws = Cond.code y cc maxL ret :: ws') (hlen : (lg_sl av).length ≤ maxL)
    (body : ∀ (p : Program) (e : Env) (s : State) (m : MethodId) (below : List Frame) (meth : Method) (c : Code) (A : Nat → Prop) (ls : Array Slot) (H : Heap), p.tables.exec = Jvm.exec → c.code = cc → c.maxLocals = maxL → meth.sig.returnType = ret → meth.locks = false → (∀ w ∈ ws, w.before av.toArray s = true) → s.vm.findClass y.cls = some m.cls → meth.name = y.name → va_K D vwCl (gp_T cy) s → gp_N s → va_S A s.heap H [] → va_P D vwCl W0 H → va_D A W0 → (∀ q : Nat, s.heap.size ≤ q → A q) → lv_has ls maxL (lv_args 0 av) → W p l e (headSpec ws rm).room s m av.toArray below meth c H [] 0 0 (MQ below (Qc A) av.toArray s mc ms A) (F0 m 0 ls [])) :
    Met l y ws rm (va_Pc av (gp_B D cy sz W0)) (Qc (va_A W0 sz)) mc ms (va_A W0 sz) := by
  refine Met.ofW (cc := cc) (maxL := maxL) (ret := ret) hy hw ?_
  intro p e s m args below meth c s₁ B hml hv
  obtain ⟨rfl, hsz, hP, hK, hD0, hN⟩ := hv
  subst hsz
  have hl := lv_entry av (n := maxL) hlen
  rw [lg_entry_eq]
  exact body p e s m below meth c _ _ s.heap B.exec B.bytes hml B.returns B.notSynchronized (atoms_spec (ws := ws) B.pre) (findClass_of_methodNamed B.named) (name_of_methodNamed B.named B.method).1 hK hN va_S.rf hP (hD0.self (sz := s.heap.size)) (fun q h => Or.inr h) hl
section GPW
variable {p : Program} {l : Launch} {e : Env} {R : Room} {s : State} {m : MethodId} {args : Array Value} {below : List Frame} {meth : Method} {c : Code} {H : Heap} {locs : List Loc} {cells slots : Nat} {Q : State → Prop}
variable {cc : ByteArray} {pc : Nat} {ls : Array Slot} {rest : List Value} {D : va_G} {cl : List vw_C} {A : Nat → Prop} {a : Nat} {tys : List (ClassId × FieldType)} {ws : va_W} {H0 : Heap}
theorem gp_ni {x : Int32} (y : Int32) (h : x = y) (k : W p l e R s m args below meth c H locs cells slots Q (F0 m pc ls (.int y :: rest))) : W p l e R s m args below meth c H locs cells slots Q (F0 m pc ls (.int x :: rest)) := h ▸ k
theorem gp_nl {x : Int64} (y : Int64) (h : x = y) (k : W p l e R s m args below meth c H locs cells slots Q (F0 m pc ls (.long y :: rest))) : W p l e R s m args below meth c H locs cells slots Q (F0 m pc ls (.long x :: rest)) := h ▸ k
theorem gp_nr {x : Value} (y : Value) (h : x = y) (k : W p l e R s m args below meth c H locs cells slots Q (F0 m pc ls (y :: rest))) : W p l e R s m args below meth c H locs cells slots Q (F0 m pc ls (x :: rest)) := h ▸ k
theorem gp_newa (hexec : p.tables.exec = Jvm.exec) (hb : c.code = cc) {atype : ArrayType} (harr : (Cond.arrayClass (newarray.typeOf atype)).before args s = true) {ty : FieldType} (hty : newarray.typeOf atype = ty) (hK : va_K D cl tys s) (hP : va_P D cl ws H) (hD : va_D A ws) (hS : va_S A H0 H locs) (hA : ∀ q, H0.size ≤ q → A q) (t0 : Nat) {cy : ClassId} (ht : tys[t0]? = some (cy, ty))
    {n : Int32} {N' : Nat} {a0 : vp_A} (ha : ∀ cA : ClassId, vp_cell cA a0 = arrV cA N' (fun _ => defaultValue ty)) (hn : ¬ n < 0) (hN : n.toNatClampNeg = N') (hbytes : N' * componentBytes ty ≤ 536870912) (hcells : cells + 1 ≤ R.cells) (hslots : slots + N' ≤ R.slots) (hdg : decode cc pc = .ok (.newarray atype, 2))
    (kk : ∀ (q : Nat) (H1 : Heap), va_P D cl (ws ++ [(q, .inl (cy, a0))]) H1 → va_D A (ws ++ [(q, .inl (cy, a0))]) → va_S A H0 H1 locs →
      W p l e R s m args below meth c H1 locs (cells + 1) (slots + N') Q (F0 m (pc + 2) ls (.ref q :: rest))) : W p l e R s m args below meth c H locs cells slots Q (F0 m pc ls (.int n :: rest)) := by
  refine va_newa hexec hb harr hty hK hP hD hS hA ha hn hN hbytes hcells hslots hdg (fun q cA H1 hK1 hP1 hD1 hS1 => ?_)
  have e : cA = cy := by
    have h1 := (hK1.2 tys.length (cA, ty) (by simp)).2
    have h2 := (hK.2 t0 (cy, ty) ht).2
    subst hty
    cases atype <;> exact Option.some.inj (h1.symm.trans h2)
  subst e
  exact kk q H1 hP1 hD1 hS1
end GPW
/-! pure words -/
abbrev sp_in (v lo hi : Int32) : Prop := lo ≤ v ∧ v ≤ hi
abbrev sp_pl (x y : Int32) : Prop := sp_in x (-100) 100 ∧ sp_in y (-100) 100
abbrev sp_far (x y : Int32) : Prop := sp_in x (-200) 200 ∧ sp_in y (-200) 200
abbrev sp_two (ax ay bx b2 : Int32) : Prop := sp_pl ax ay ∧ sp_pl bx b2 ∧ (ax ≠ bx ∨ ay ≠ b2)
theorem gp_in {i hi : Int32} {n : Nat} (h : sp_in i 0 hi) (hn : hi.toInt < n) : vp_in i n := vp_in_iff.mpr ⟨by have := Int32.le_iff_toInt_le.mp h.1; exact this, Int.lt_of_le_of_lt (Int32.le_iff_toInt_le.mp h.2) hn⟩
theorem gp_in2 {i N : Int32} {n : Nat} (hN : N.toInt = n) (h0 : ¬ i < 0) (h1 : ¬ N ≤ i) : vp_in i n := by
  rw [vp_in_iff]
  rw [Int32.lt_iff_toInt_lt] at h0
  rw [Int32.le_iff_toInt_le] at h1
  have e0 : (0 : Int32).toInt = 0 := by decide
  rw [e0] at h0
  omega
theorem gp_clamp {i : Int32} {n : Nat} (h : vp_in i n) : i.toNatClampNeg < n := Nat.not_le.mp fun q => h (Or.inr q)
/-- rows of a grid at the end of a world -/
abbrev gp_R (n : Nat) (g : Nat → Nat × va_E) : va_W := (List.range n).map g
theorem gp_Rlen (n : Nat) (g : Nat → Nat × va_E) : (gp_R n g).length = n := by simp
theorem gp_Rget {X Y : va_W} {n k w : Nat} {g : Nat → Nat × va_E} (hk : X.length = k) (h : w < n) : ((X ++ gp_R n g) ++ Y)[k + w]? = some (g w) := by
  rw [List.append_assoc, List.getElem?_append_right (by omega), List.getElem?_append_left (by rw [gp_Rlen]; omega)]
  simp [← hk, h]
theorem gp_Rget0 {X : va_W} {n k w : Nat} {g : Nat → Nat × va_E} (hk : X.length = k) (h : w < n) : (X ++ gp_R n g)[k + w]? = some (g w) := by
  rw [List.getElem?_append_right (by omega)]
  simp [← hk, h]
theorem gp_Rset {X : va_W} {n k w : Nat} {g : Nat → Nat × va_E} {e : Nat × va_E} (hk : X.length = k) (h : w < n) : (X ++ gp_R n g).set (k + w) e = X ++ gp_R n (va_up g w e) := by
  apply List.ext_getElem?
  intro j
  rw [List.getElem?_set]
  by_cases e1 : k + w = j
  · subst e1
    have hl : k + w < (X ++ gp_R n g).length := by simp; omega
    rw [if_pos rfl, if_pos hl, gp_Rget0 hk h]
    simp [va_up]
  · rw [if_neg e1]
    by_cases h2 : j < X.length
    · rw [List.getElem?_append_left h2, List.getElem?_append_left h2]
    · rw [List.getElem?_append_right (by omega), List.getElem?_append_right (by omega)]
      have e3 : j - X.length ≠ w := by omega
      by_cases h4 : j - X.length < n
      · simp [h4, va_up, e3]
      · rw [List.getElem?_eq_none (by simp; omega), List.getElem?_eq_none (by simp; omega)]
theorem gp_RsetI {X : va_W} {n k w b : Nat} {c : ClassId} {xa : Nat → Nat} {F : Nat → Nat → Int32} {r : Nat → Int32} (hk : X.length = k) (h : w < n) : (X ++ gp_R n (fun i => (xa (b + i), .inl (c, 4, .inl (F i))))).set (k + w) (xa (b + w), .inl (c, 4, .inl r)) = X ++ gp_R n (fun i => (xa (b + i), .inl (c, 4, .inl (va_up F w r i)))) := by
  rw [gp_Rset hk h]
  refine congrArg (fun z => X ++ gp_R n z) (funext fun i => ?_)
  by_cases e : i = w
  · subst e; simp [va_up]
  · simp [va_up, e]
theorem gp_RsetJ {X : va_W} {n k w b : Nat} {c : ClassId} {xa : Nat → Nat} {F : Nat → Nat → Int64} {r : Nat → Int64} (hk : X.length = k) (h : w < n) : (X ++ gp_R n (fun i => (xa (b + i), .inl (c, 4, .inr (.inl (F i)))))).set (k + w) (xa (b + w), .inl (c, 4, .inr (.inl r))) = X ++ gp_R n (fun i => (xa (b + i), .inl (c, 4, .inr (.inl (va_up F w r i))))) := by
  rw [gp_Rset hk h]
  refine congrArg (fun z => X ++ gp_R n z) (funext fun i => ?_)
  by_cases e : i = w
  · subst e; simp [va_up]
  · simp [va_up, e]
theorem gp_rf {n j : Nat} {g : Nat → Nat} (h : j < n) : va_rf ((fun i => if i < n then some (g i) else none) j) = .ref (g j) := by simp [va_rf, h]
section GPA
variable {p : Program} {l : Launch} {e : Env} {R : Room} {s : State} {m : MethodId} {args : Array Value} {below : List Frame} {meth : Method} {c : Code} {H : Heap} {locs : List Loc} {cells slots : Nat} {Q : State → Prop}
variable {cc : ByteArray} {pc : Nat} {ls : Array Slot} {rest : List Value} {D : va_G} {cl : List vw_C} {A : Nat → Prop} {a : Nat} {tys : List (ClassId × FieldType)} {ws : va_W} {H0 : Heap}
theorem gp_aldA (hexec : p.tables.exec = Jvm.exec) (hb : c.code = cc) (hK : va_K D cl tys s) (hP : va_P D cl ws H) (q0 t0 : Nat) {cA : ClassId} {ty : FieldType} {n : Nat} {f : Nat → Option Nat} (ha : ws[q0]? = some (a, .inl (cA, n, .inr (.inr (.inr (.inr f)))))) (ht : tys[t0]? = some (cA, .array ty)) {i : Int32} (hin : vp_in i n) (hdg : decode cc pc = .ok (.aaload, 1))
    (kk : W p l e R s m args below meth c H locs cells slots Q (F0 m (pc + 1) ls (va_rf (f i.toNatClampNeg) :: rest))) : W p l e R s m args below meth c H locs cells slots Q (F0 m pc ls (.int i :: .ref a :: rest)) := by
  have hlt : i.toNatClampNeg < n := Nat.not_le.mp fun q => hin (Or.inr q)
  exact W.aald (v := va_rf (f i.toNatClampNeg)) (ty := .array ty) hexec hb (hP q0 _ ha) ((hK.2 t0 _ ht).1 n (fun j => va_rf (f j))) rfl (fun q => by cases q) (by show ¬ (i < 0 ∨ (arrV _ _ _).slots.size ≤ _); rw [arrV_size]; exact hin) (by show (arrV _ _ _).slots[_]? = _; rw [arrV_read _ _ hlt]) rfl rfl hdg kk
end GPA
theorem gwX0 : (wsX00).all goodWord = true := by decide +kernel
theorem gwX1 : (wsX10).all goodWord = true := by decide +kernel
theorem gwX2 : (wsX20).all goodWord = true := by decide +kernel
theorem gwX3 : (wsX30).all goodWord = true := by decide +kernel
theorem gwX4 : (wsX40).all goodWord = true := by decide +kernel
theorem gwX5 : (wsX50).all goodWord = true := by decide +kernel
theorem gwX6 : (wsX60).all goodWord = true := by decide +kernel
theorem gwX7 : (wsX70).all goodWord = true := by decide +kernel
theorem gwX8 : (wsX80).all goodWord = true := by decide +kernel
theorem gwX9 : (wsX90).all goodWord = true := by decide +kernel
theorem gwX10 : (wsX100).all goodWord = true := by decide +kernel
theorem gwX11 : (wsX110).all goodWord = true := by decide +kernel
theorem gwX12 : (wsX120).all goodWord = true := by decide +kernel
