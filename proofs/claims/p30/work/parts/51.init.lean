section GPC
variable {p : Program} {l : Launch} {e : Env} {R : Room} {s : State} {m : MethodId} {args : Array Value} {below : List Frame} {meth : Method} {c : Code} {H : Heap} {locs : List Loc} {cells slots : Nat} {Q : State → Prop}
variable {cc : ByteArray} {pc : Nat} {ls : Array Slot} {rest : List Value} {D : va_G} {cl : List vw_C} {A : Nat → Prop} {a : Nat} {tys : List (ClassId × FieldType)} {ws : va_W} {H0 : Heap}
theorem gp_newq (hexec : p.tables.exec = Jvm.exec) (hb : c.code = cc) {own C : String} {index : Nat} (hown : s.vm.findClass own = some m.cls) (hclink : (Cond.classLink own index C).before args s = true) (hover : va_AO C s) (hK : va_K D cl tys s) (hP : va_P D cl ws H) (hD : va_D A ws) (hS : va_S A H0 H locs) (hA : ∀ q, H0.size ≤ q → A q) (t0 : Nat) {cy : ClassId} (ht : tys[t0]? = some (cy, .object C))
    {n : Int32} {N' : Nat} (hn : ¬ n < 0) (hN : n.toNatClampNeg = N') (hbytes : N' * 4 ≤ 536870912) (hcells : cells + 1 ≤ R.cells) (hslots : slots + N' ≤ R.slots) (hdg : decode cc pc = .ok (.anewarray index, 3))
    (kk : ∀ (q : Nat) (H1 : Heap), va_P D cl (ws ++ [(q, .inl (cy, N', .inr (.inr (.inr (.inr (fun _ => none))))))]) H1 → va_D A (ws ++ [(q, .inl (cy, N', .inr (.inr (.inr (.inr (fun _ => none))))))]) → va_S A H0 H1 locs →
      W p l e R s m args below meth c H1 locs (cells + 1) (slots + N') Q (F0 m (pc + 3) ls (.ref q :: rest))) : W p l e R s m args below meth c H locs cells slots Q (F0 m pc ls (.int n :: rest)) := by
  refine va_newq hexec hb hown hclink hover hK hP hD hS hA hn hN hbytes hcells hslots hdg (fun q cA H1 hK1 hP1 hD1 hS1 => ?_)
  have e : cA = cy := by
    obtain ⟨-, -, -, -, -, h1⟩ := (hK1.2 tys.length (cA, .object C) (by simp)).2
    obtain ⟨-, -, -, -, -, h2⟩ := (hK.2 t0 (cy, .object C) ht).2
    exact Option.some.inj (h1.symm.trans h2)
  subst e
  exact kk q H1 hP1 hD1 hS1
theorem gp_plr {n : Nat} {r : Nat → Nat} {f : Nat → va_E} {e : va_E} : va_pl ([] ++ (List.range n).map r) (vr_up f ((List.range n).map r) e) = gp_R n (fun i => (r i, e)) := by
  unfold va_pl gp_R
  rw [List.nil_append, List.map_map]
  apply List.map_congr_left
  intro i hi
  show (r i, vr_up f ((List.range n).map r) e (r i)) = (r i, e)
  rw [vr_up_in (List.mem_map_of_mem hi)]
theorem gp_mna {ty : FieldType} {c1 c2 : ClassId} (hexec : p.tables.exec = Jvm.exec) (hb : c.code = cc) {own : String} {index : Nat} (hown : s.vm.findClass own = some m.cls) (hclink : (Cond.classLink own index ("[" ++ (FieldType.array ty).toString)).before args s = true) (hover : va_AOA ty s) (harr : (Cond.arrayClass ty).before args s = true)
    (hK : va_K D cl tys s) (hcy : s.vm.findClass (FieldType.array ty).toString = some c1) (t2 : Nat) (ht2 : tys[t2]? = some (c2, .array ty)) (hP : va_P D cl ws H) (hD : va_D A ws) (hS : va_S A H0 H locs) (hA : ∀ q, H0.size ≤ q → A q) {n k : Int32} {N' K' : Nat} {z : vp_A} (hn : ¬ n < 0) (hk : ¬ k < 0) (hN : n.toNatClampNeg = N') (hM : k.toNatClampNeg = K')
    (hb1 : N' * 4 ≤ 536870912) (hb2 : K' * componentBytes ty ≤ 536870912) (hb3 : K' ≤ 536870912) (hdf : fits ty (defaultValue ty) = true) (hdd : (defaultValue ty).isDefault = true) (hcells : cells + (1 + N') ≤ R.cells) (hslots : slots + (N' + N' * K') ≤ R.slots) (hz : ∀ c : ClassId, Jvm.Free.Multi.innerC c K' (defaultValue ty) = vp_cell c z) (hdg : decode cc pc = .ok (.multianewarray index 2, 4))
    (kk : ∀ (q : Nat) (r : Nat → Nat) (H1 : Heap), va_P D cl ((ws ++ [(q, .inl (c2, N', .inr (.inr (.inr (.inr (fun i => if i < N' then some (r i) else none))))))]) ++ gp_R N' (fun i => (r i, .inl (c1, z)))) H1 → va_D A ((ws ++ [(q, .inl (c2, N', .inr (.inr (.inr (.inr (fun i => if i < N' then some (r i) else none))))))]) ++ gp_R N' (fun i => (r i, .inl (c1, z)))) → va_S A H0 H1 locs →
      W p l e R s m args below meth c H1 locs (cells + 1 + N') (slots + N' + N' * K') Q (F0 m (pc + 4) ls (.ref q :: rest))) : W p l e R s m args below meth c H locs cells slots Q (F0 m pc ls (.int k :: .int n :: rest)) := by
  have e0 : ws ++ va_pl [] (fun _ => .inl (c1, z)) = ws := List.append_nil ws
  refine va_mna (X := ws) (L := []) (f := fun _ => .inl (c1, z)) hexec hb hown hclink hover harr hcy hK (by rw [e0]; exact hP) (by rw [e0]; exact hD) hS hA hn hk hN hM hb1 hb2 hb3 hdf hdd hcells hslots hz hdg (fun q r cA H1 _ _ hK1 hP1 hD1 hS1 => ?_)
  have e : cA = c2 := by
    have h1 : s.vm.findClass ("[" ++ (FieldType.array ty).toString) = some cA := (hK1.2 tys.length (cA, .array ty) (by simp)).2
    have h2 : s.vm.findClass ("[" ++ (FieldType.array ty).toString) = some c2 := (hK.2 t2 (c2, .array ty) ht2).2
    exact Option.some.inj (h1.symm.trans h2)
  subst e
  rw [gp_plr] at hP1 hD1
  exact kk q r H1 hP1 hD1 hS1
end GPC
theorem gp_innerI (c : ClassId) {K : Nat} : Jvm.Free.Multi.innerC c K (defaultValue .int) = vp_cell c (K, .inl (fun _ => 0)) := by
  show ({ cls := c, slots := Array.replicate K (.int 0), vm := .none } : Cell) = _
  rw [arrV_new]
  rfl
theorem gp_innerJ (c : ClassId) {K : Nat} : Jvm.Free.Multi.innerC c K (defaultValue .long) = vp_cell c (K, .inr (.inl (fun _ => 0))) := by
  show ({ cls := c, slots := Array.replicate K (.long 0), vm := .none } : Cell) = _
  rw [arrV_new]
  rfl
/-- the addresses of a new object's cells, by number -/
abbrev gp_ad (l : List Nat) (r1 r2 r3 r4 : Nat → Nat) : Nat → Nat := fun k => if k < 100 then l.getD k 0 else if k < 120 then r1 (k - 100) else if k < 140 then r2 (k - 120) else if k < 200 then r3 (k - 140) else r4 (k - 200)
theorem gp_ad1 (l : List Nat) (r1 r2 r3 r4 : Nat → Nat) : (fun i => if i < 12 then some (r1 i) else none) = (fun i => if i < 12 then some (gp_ad l r1 r2 r3 r4 (100 + i)) else none) := by
  funext i
  by_cases h : i < 12
  · have e1 : ¬ 100 + i < 100 := by omega
    have e2 : 100 + i < 120 := by omega
    simp only [h, if_true, gp_ad, if_neg e1, if_pos e2, Nat.add_sub_cancel_left]
  · simp [h]
theorem gp_ad2 (l : List Nat) (r1 r2 r3 r4 : Nat → Nat) : (fun i => if i < 8 then some (r2 i) else none) = (fun i => if i < 8 then some (gp_ad l r1 r2 r3 r4 (120 + i)) else none) := by
  funext i
  by_cases h : i < 8
  · have e1 : ¬ 120 + i < 100 := by omega
    have e2 : ¬ 120 + i < 120 := by omega
    have e3 : 120 + i < 140 := by omega
    simp only [h, if_true, gp_ad, if_neg e1, if_neg e2, if_pos e3, Nat.add_sub_cancel_left]
  · simp [h]
theorem gp_ad3 (l : List Nat) (r1 r2 r3 r4 : Nat → Nat) : (fun i => if i < 12 then some (r3 i) else none) = (fun i => if i < 12 then some (gp_ad l r1 r2 r3 r4 (140 + i)) else none) := by
  funext i
  by_cases h : i < 12
  · have e1 : ¬ 140 + i < 100 := by omega
    have e2 : ¬ 140 + i < 120 := by omega
    have e3 : ¬ 140 + i < 140 := by omega
    have e4 : 140 + i < 200 := by omega
    simp only [h, if_true, gp_ad, if_neg e1, if_neg e2, if_neg e3, if_pos e4, Nat.add_sub_cancel_left]
  · simp [h]
abbrev gp_po0 : Nat → Nat := fun i => if i < 7 then i else 0
abbrev gp_pg0 : Nat → Nat := fun i => if i < 12 then 7 + i else 0
theorem gp_Pext {D : va_G} {cl : List vw_C} {X Y : va_W} {H : Heap} {a n : Nat} {c : ClassId} {f g : Nat → Option Nat} (h : va_P D cl (X ++ (a, .inl (c, n, .inr (.inr (.inr (.inr f))))) :: Y) H) (e : ∀ j, j < n → f j = g j) : va_P D cl (X ++ (a, .inl (c, n, .inr (.inr (.inr (.inr g))))) :: Y) H := by
  have ec : vp_cell c (n, .inr (.inr (.inr (.inr f)))) = vp_cell c (n, .inr (.inr (.inr (.inr g)))) := by
    show arrV c n (fun j => va_rf (f j)) = arrV c n (fun j => va_rf (g j))
    unfold arrV
    congr 1
    refine congrArg Array.ofFn (funext fun j => ?_)
    show va_rf (f j.val) = va_rf (g j.val)
    rw [e j.val j.isLt]
  intro k q hq
  by_cases hk : k = X.length
  · subst hk
    rw [List.getElem?_append_right (Nat.le_refl _)] at hq
    simp at hq
    subst hq
    have := h X.length (a, .inl (c, n, .inr (.inr (.inr (.inr f))))) (by rw [List.getElem?_append_right (Nat.le_refl _)]; simp)
    show H[a]? = some _
    rw [← ec]
    exact this
  · refine h k q ?_
    by_cases hl : k < X.length
    · rw [List.getElem?_append_left hl] at hq ⊢
      exact hq
    · rw [List.getElem?_append_right (by omega)] at hq ⊢
      obtain ⟨j, hj⟩ : ∃ j, k - X.length = j + 1 := ⟨k - X.length - 1, by omega⟩
      rw [hj] at hq ⊢
      simpa using hq
theorem gp_Dext {A : Nat → Prop} {X Y : va_W} {a n : Nat} {c : ClassId} {f g : Nat → Option Nat} (h : va_D A (X ++ (a, .inl (c, n, .inr (.inr (.inr (.inr f))))) :: Y)) : va_D A (X ++ (a, .inl (c, n, .inr (.inr (.inr (.inr g))))) :: Y) := by
  have loc : ∀ (k : Nat) (q : Nat × va_E), (X ++ (a, .inl (c, n, .inr (.inr (.inr (.inr g))))) :: Y)[k]? = some q → ∃ q' : Nat × va_E, (X ++ (a, .inl (c, n, .inr (.inr (.inr (.inr f))))) :: Y)[k]? = some q' ∧ q'.1 = q.1 := by
    intro k q hq
    by_cases hl : k < X.length
    · rw [List.getElem?_append_left hl] at hq ⊢
      exact ⟨q, hq, rfl⟩
    · rw [List.getElem?_append_right (by omega)] at hq ⊢
      cases hj : k - X.length with
      | zero => rw [hj] at hq; simp at hq; subst hq; exact ⟨(a, .inl (c, n, .inr (.inr (.inr (.inr f))))), by simp, rfl⟩
      | succ j => rw [hj] at hq; exact ⟨q, by simpa using hq, rfl⟩
  refine ⟨fun i j p q hi hj he => ?_, fun k q hq => ?_⟩
  · obtain ⟨p', a1, a2⟩ := loc i p hi
    obtain ⟨q', b1, b2⟩ := loc j q hj
    exact h.1 i j p' q' a1 b1 (by rw [a2, b2, he])
  · obtain ⟨q', b1, b2⟩ := loc k q hq
    rw [← b2]
    exact h.2 k q' b1
def v_kX9_init : List Cond := .code yX9_init cX9_init 1 none :: (([.methodLink RX9 3 objectInit, .instanceMethod objectInit, .code objectInit ⟨#[0xb1]⟩ 1 none, .fieldLink RX9 9 "GhostPane$Tape" "fault" "I", .fieldLink RX9 15 "GhostPane$Tape" "faultPlace" "I", .arrayClass .byte, .fieldLink RX9 18 "GhostPane$Tape" "bytes" "[B"] : List Cond) ++ wsX90)
set_option maxHeartbeats 4000000 in
set_option maxRecDepth 100000 in
theorem kX9_init (l : Launch) (D : va_G) (cy : Nat → ClassId) (sz : Nat) (h0 : Nat) : Met l yX9_init v_kX9_init ({ frames := 1, cells := 1, slots := 600, locals := 20 } : Room) (va_Pc [.ref h0] (gp_B D cy sz [(h0, .inr (9, [.int 0, .int 0, .int 0, .int 0, .int 0, .int 0, .null]))])) (va_Qv (fun (u : Nat) => True) (fun u => gp_E D (va_A [(h0, .inr (9, [.int 0, .int 0, .int 0, .int 0, .int 0, .int 0, .null]))] sz) [(h0, .inr (9, [.int 0, .int 0, .int (-1), .int 0, .int 0, .int 0, .ref u])), (u, .inl (cy 0, 600, .inl (fun _ => 0)))]) (va_A [(h0, .inr (9, [.int 0, .int 0, .int 0, .int 0, .int 0, .int 0, .null]))] sz)) 1 600 (va_A [(h0, .inr (9, [.int 0, .int 0, .int 0, .int 0, .int 0, .int 0, .null]))] sz) := by
  refine gp_met (Qc := fun A => va_Qv (fun (u : Nat) => True) (fun u => gp_E D A [(h0, .inr (9, [.int 0, .int 0, .int (-1), .int 0, .int 0, .int 0, .ref u])), (u, .inl (cy 0, 600, .inl (fun _ => 0)))]) A) (cc := cX9_init) (maxL := 1) (ret := none) (by decide) rfl (Nat.le_of_ble_eq_true rfl) ?_
  intro p e s m below meth c A ls H hx hb hml hr hlocks hts hown hin hK hN hS hP hD hA hl
  have hown : s.vm.findClass RX9 = some m.cls := hown
  have hl : lv_has ls 1 [(0, .ref h0)] := hl
  have hiX9 : ∀ w ∈ u_ws RX9 TX9 7, w ∈ v_kX9_init := fun _ h => List.mem_cons_of_mem _ (List.mem_append_right _ h)
  refine lv_aload_n hx hb dX9_init_0 rfl (lv_at hl 0 rfl) ?_
  refine W.objInit hx hb hown (hts (.methodLink RX9 3 objectInit) (List.mem_of_getElem? (i := 1) rfl)) (hts (.instanceMethod objectInit) (List.mem_of_getElem? (i := 2) rfl)) (hts (.code objectInit ⟨#[0xb1]⟩ 1 none) (List.mem_of_getElem? (i := 3) rfl)) rfl (by rw [hml]; exact hl.1) rfl dX9_init_1 (Nat.le_of_ble_eq_true rfl) (Nat.le_of_ble_eq_true rfl) ?_
  refine W.eq (g2 := F0 m 4 ls []) rfl ?_
  refine lv_aload_n hx hb dX9_init_4 rfl (lv_at hl 0 rfl) ?_
  refine lv_iconst (v := 0) hx hb dX9_init_5 (by decide) ?_
  refine va_put (D := D) (ci := 9) (v := .int 0) (ty := .int) (C := RX9) (T := TX9) (N := 7) hx hb hts hiX9 tyX9 tyX9_ok nmX9 hown hK hP hD hS 0 rfl rfl 1 (by decide) (hts (.fieldLink RX9 9 "GhostPane$Tape" "fault" "I") (List.mem_of_getElem? (i := 4) rfl)) (fun _ h9 => h9) rfl (by decide +kernel) rfl rfl (Nat.le_of_ble_eq_true rfl) dX9_init_6 (fun H locs hP hD hS => ?_)
  have hP : va_P D vwCl [(h0, .inr (9, [.int 0, .int 0, .int 0, .int 0, .int 0, .int 0, .null]))] H := hP
  have hD := gp_sD hP hD
  refine lv_aload_n hx hb dX9_init_9 rfl (lv_at hl 0 rfl) ?_
  refine lv_iconst (v := (-1)) hx hb dX9_init_10 (by decide) ?_
  refine va_put (D := D) (ci := 9) (v := .int (-1)) (ty := .int) (C := RX9) (T := TX9) (N := 7) hx hb hts hiX9 tyX9 tyX9_ok nmX9 hown hK hP hD hS 0 rfl rfl 2 (by decide) (hts (.fieldLink RX9 15 "GhostPane$Tape" "faultPlace" "I") (List.mem_of_getElem? (i := 5) rfl)) (fun _ h9 => h9) rfl (by decide +kernel) rfl rfl (Nat.le_of_ble_eq_true rfl) dX9_init_11 (fun H locs hP hD hS => ?_)
  have hP : va_P D vwCl [(h0, .inr (9, [.int 0, .int 0, .int (-1), .int 0, .int 0, .int 0, .null]))] H := hP
  have hD := gp_sD hP hD
  refine lv_aload_n hx hb dX9_init_14 rfl (lv_at hl 0 rfl) ?_
  refine lv_sipush (v := 600) hx hb dX9_init_15 (by decide) ?_
  refine gp_newa (atype := .byte) (ty := .byte) (n := 600) (N' := 600) (a0 := (600, .inl (fun _ => 0))) hx hb (hts (.arrayClass .byte) (List.mem_of_getElem? (i := 6) rfl)) rfl hK hP hD hS hA 0 rfl (fun _ => rfl) (by decide) (by decide) (by decide) (Nat.le_of_ble_eq_true rfl) (Nat.le_of_ble_eq_true rfl) dX9_init_18 (fun q_1 H hP hD hS => ?_)
  have hP : va_P D vwCl [(h0, .inr (9, [.int 0, .int 0, .int (-1), .int 0, .int 0, .int 0, .null])), (q_1, .inl (cy 0, 600, .inl (fun _ => 0)))] H := hP
  have hD := gp_sD hP hD
  refine W.widen (k := 1) (n := 600) (Nat.le_of_ble_eq_true rfl) (Nat.le_of_ble_eq_true rfl) ?_
  refine va_putF (D := D) (ci := 9) (v := .ref q_1) (ty := (.array .byte)) (C := RX9) (T := TX9) (N := 7) hx hb hts hiX9 tyX9 tyX9_ok nmX9 hown hK hP hD hS 0 rfl rfl 6 (by decide) (hts (.fieldLink RX9 18 "GhostPane$Tape" "bytes" "[B") (List.mem_of_getElem? (i := 7) rfl)) (fun _ h9 => h9) rfl hin rfl (by decide +kernel) rfl rfl (Nat.le_of_ble_eq_true rfl) dX9_init_20 (fun H locs hP hD hS => ?_)
  have hP : va_P D vwCl [(h0, .inr (9, [.int 0, .int 0, .int (-1), .int 0, .int 0, .int 0, .ref q_1])), (q_1, .inl (cy 0, 600, .inl (fun _ => 0)))] H := hP
  have hD := gp_sD hP hD
  exact W.vret hx hb hr (fun t ht hW => ⟨⟨q_1, rfl, trivial, gp_end ht (hP.sub (ws' := [(h0, .inr (9, [.int 0, .int 0, .int (-1), .int 0, .int 0, .int 0, .ref q_1])), (q_1, .inl (cy 0, 600, .inl (fun _ => 0)))]) [0, 1] rfl) (hD.sub (ws' := [(h0, .inr (9, [.int 0, .int 0, .int (-1), .int 0, .int 0, .int 0, .ref q_1])), (q_1, .inl (cy 0, 600, .inl (fun _ => 0)))]) [0, 1] (by decide) rfl)⟩, hS.F ht⟩) hS.2.2 dX9_init_23

def v_kX0_init : List Cond := .code yX0_init cX0_init 1 none :: (([.methodLink RX0 3 objectInit, .instanceMethod objectInit, .code objectInit ⟨#[0xb1]⟩ 1 none] : List Cond))
set_option maxHeartbeats 4000000 in
set_option maxRecDepth 100000 in
theorem kX0_init (l : Launch) (D : va_G) (cy : Nat → ClassId) (sz : Nat) (h0 : Nat) : Met l yX0_init v_kX0_init ({ frames := 1, cells := 0, slots := 0, locals := 20 } : Room) (va_Pc [.ref h0] (gp_B D cy sz [(h0, .inr (0, [.int 0, .int 0, .int 0, .int 0, .int 0, .int 0, .int 0]))])) (va_Qv (fun (u : Unit) => True) (fun u => gp_E D (va_A [(h0, .inr (0, [.int 0, .int 0, .int 0, .int 0, .int 0, .int 0, .int 0]))] sz) [(h0, .inr (0, [.int 0, .int 0, .int 0, .int 0, .int 0, .int 0, .int 0]))]) (va_A [(h0, .inr (0, [.int 0, .int 0, .int 0, .int 0, .int 0, .int 0, .int 0]))] sz)) 0 0 (va_A [(h0, .inr (0, [.int 0, .int 0, .int 0, .int 0, .int 0, .int 0, .int 0]))] sz) := by
  refine gp_met (Qc := fun A => va_Qv (fun (u : Unit) => True) (fun u => gp_E D A [(h0, .inr (0, [.int 0, .int 0, .int 0, .int 0, .int 0, .int 0, .int 0]))]) A) (cc := cX0_init) (maxL := 1) (ret := none) (by decide) rfl (Nat.le_of_ble_eq_true rfl) ?_
  intro p e s m below meth c A ls H hx hb hml hr hlocks hts hown hin hK hN hS hP hD hA hl
  have hown : s.vm.findClass RX0 = some m.cls := hown
  have hl : lv_has ls 1 [(0, .ref h0)] := hl
  refine lv_aload_n hx hb dX0_init_0 rfl (lv_at hl 0 rfl) ?_
  refine W.objInit hx hb hown (hts (.methodLink RX0 3 objectInit) (List.mem_of_getElem? (i := 1) rfl)) (hts (.instanceMethod objectInit) (List.mem_of_getElem? (i := 2) rfl)) (hts (.code objectInit ⟨#[0xb1]⟩ 1 none) (List.mem_of_getElem? (i := 3) rfl)) rfl (by rw [hml]; exact hl.1) rfl dX0_init_1 (Nat.le_of_ble_eq_true rfl) (Nat.le_of_ble_eq_true rfl) ?_
  refine W.eq (g2 := F0 m 4 ls []) rfl ?_
  exact W.vret hx hb hr (fun t ht hW => ⟨⟨(), rfl, trivial, gp_end ht (hP.sub (ws' := [(h0, .inr (0, [.int 0, .int 0, .int 0, .int 0, .int 0, .int 0, .int 0]))]) [0] rfl) (hD.sub (ws' := [(h0, .inr (0, [.int 0, .int 0, .int 0, .int 0, .int 0, .int 0, .int 0]))]) [0] (by decide) rfl)⟩, hS.F ht⟩) hS.2.2 dX0_init_4

def v_kX2_init : List Cond := .code yX2_init cX2_init 1 none :: (([.methodLink RX2 1 objectInit, .instanceMethod objectInit, .code objectInit ⟨#[0xb1]⟩ 1 none, .arrayClass .int, .fieldLink RX2 9 "GhostPane$Code" "kind" "[I", .fieldLink RX2 13 "GhostPane$Code" "first" "[I", .fieldLink RX2 16 "GhostPane$Code" "second" "[I"] : List Cond) ++ wsX20)
set_option maxHeartbeats 4000000 in
set_option maxRecDepth 100000 in
theorem kX2_init (l : Launch) (D : va_G) (cy : Nat → ClassId) (sz : Nat) (h0 : Nat) : Met l yX2_init v_kX2_init ({ frames := 1, cells := 3, slots := 384, locals := 20 } : Room) (va_Pc [.ref h0] (gp_B D cy sz [(h0, .inr (2, [.int 0, .null, .null, .null]))])) (va_Qv (fun (u : Nat × Nat × Nat) => True) (fun u => gp_E D (va_A [(h0, .inr (2, [.int 0, .null, .null, .null]))] sz) [(h0, .inr (2, [.int 0, .ref u.1, .ref u.2.1, .ref u.2.2])), (u.1, .inl (cy 1, 128, .inl (fun _ => 0))), (u.2.1, .inl (cy 1, 128, .inl (fun _ => 0))), (u.2.2, .inl (cy 1, 128, .inl (fun _ => 0)))]) (va_A [(h0, .inr (2, [.int 0, .null, .null, .null]))] sz)) 3 384 (va_A [(h0, .inr (2, [.int 0, .null, .null, .null]))] sz) := by
  refine gp_met (Qc := fun A => va_Qv (fun (u : Nat × Nat × Nat) => True) (fun u => gp_E D A [(h0, .inr (2, [.int 0, .ref u.1, .ref u.2.1, .ref u.2.2])), (u.1, .inl (cy 1, 128, .inl (fun _ => 0))), (u.2.1, .inl (cy 1, 128, .inl (fun _ => 0))), (u.2.2, .inl (cy 1, 128, .inl (fun _ => 0)))]) A) (cc := cX2_init) (maxL := 1) (ret := none) (by decide) rfl (Nat.le_of_ble_eq_true rfl) ?_
  intro p e s m below meth c A ls H hx hb hml hr hlocks hts hown hin hK hN hS hP hD hA hl
  have hown : s.vm.findClass RX2 = some m.cls := hown
  have hl : lv_has ls 1 [(0, .ref h0)] := hl
  have hiX2 : ∀ w ∈ u_ws RX2 TX2 4, w ∈ v_kX2_init := fun _ h => List.mem_cons_of_mem _ (List.mem_append_right _ h)
  refine lv_aload_n hx hb dX2_init_0 rfl (lv_at hl 0 rfl) ?_
  refine W.objInit hx hb hown (hts (.methodLink RX2 1 objectInit) (List.mem_of_getElem? (i := 1) rfl)) (hts (.instanceMethod objectInit) (List.mem_of_getElem? (i := 2) rfl)) (hts (.code objectInit ⟨#[0xb1]⟩ 1 none) (List.mem_of_getElem? (i := 3) rfl)) rfl (by rw [hml]; exact hl.1) rfl dX2_init_1 (Nat.le_of_ble_eq_true rfl) (Nat.le_of_ble_eq_true rfl) ?_
  refine W.eq (g2 := F0 m 4 ls []) rfl ?_
  refine lv_aload_n hx hb dX2_init_4 rfl (lv_at hl 0 rfl) ?_
  refine lv_sipush (v := 128) hx hb dX2_init_5 (by decide) ?_
  refine gp_newa (atype := .int) (ty := .int) (n := 128) (N' := 128) (a0 := (128, .inl (fun _ => 0))) hx hb (hts (.arrayClass .int) (List.mem_of_getElem? (i := 4) rfl)) rfl hK hP hD hS hA 1 rfl (fun _ => rfl) (by decide) (by decide) (by decide) (Nat.le_of_ble_eq_true rfl) (Nat.le_of_ble_eq_true rfl) dX2_init_8 (fun q_1 H hP hD hS => ?_)
  have hP : va_P D vwCl [(h0, .inr (2, [.int 0, .null, .null, .null])), (q_1, .inl (cy 1, 128, .inl (fun _ => 0)))] H := hP
  have hD := gp_sD hP hD
  refine W.widen (k := 1) (n := 128) (Nat.le_of_ble_eq_true rfl) (Nat.le_of_ble_eq_true rfl) ?_
  refine va_putF (D := D) (ci := 2) (v := .ref q_1) (ty := (.array .int)) (C := RX2) (T := TX2) (N := 4) hx hb hts hiX2 tyX2 tyX2_ok nmX2 hown hK hP hD hS 0 rfl rfl 1 (by decide) (hts (.fieldLink RX2 9 "GhostPane$Code" "kind" "[I") (List.mem_of_getElem? (i := 5) rfl)) (fun _ h9 => h9) rfl hin rfl (by decide +kernel) rfl rfl (Nat.le_of_ble_eq_true rfl) dX2_init_10 (fun H locs hP hD hS => ?_)
  have hP : va_P D vwCl [(h0, .inr (2, [.int 0, .ref q_1, .null, .null])), (q_1, .inl (cy 1, 128, .inl (fun _ => 0)))] H := hP
  have hD := gp_sD hP hD
  refine lv_aload_n hx hb dX2_init_13 rfl (lv_at hl 0 rfl) ?_
  refine lv_sipush (v := 128) hx hb dX2_init_14 (by decide) ?_
  refine gp_newa (atype := .int) (ty := .int) (n := 128) (N' := 128) (a0 := (128, .inl (fun _ => 0))) hx hb (hts (.arrayClass .int) (List.mem_of_getElem? (i := 4) rfl)) rfl hK hP hD hS hA 1 rfl (fun _ => rfl) (by decide) (by decide) (by decide) (Nat.le_of_ble_eq_true rfl) (Nat.le_of_ble_eq_true rfl) dX2_init_17 (fun q_2 H hP hD hS => ?_)
  have hP : va_P D vwCl [(h0, .inr (2, [.int 0, .ref q_1, .null, .null])), (q_1, .inl (cy 1, 128, .inl (fun _ => 0))), (q_2, .inl (cy 1, 128, .inl (fun _ => 0)))] H := hP
  have hD := gp_sD hP hD
  refine W.widen (k := 2) (n := 256) (Nat.le_of_ble_eq_true rfl) (Nat.le_of_ble_eq_true rfl) ?_
  refine va_putF (D := D) (ci := 2) (v := .ref q_2) (ty := (.array .int)) (C := RX2) (T := TX2) (N := 4) hx hb hts hiX2 tyX2 tyX2_ok nmX2 hown hK hP hD hS 0 rfl rfl 2 (by decide) (hts (.fieldLink RX2 13 "GhostPane$Code" "first" "[I") (List.mem_of_getElem? (i := 6) rfl)) (fun _ h9 => h9) rfl hin rfl (by decide +kernel) rfl rfl (Nat.le_of_ble_eq_true rfl) dX2_init_19 (fun H locs hP hD hS => ?_)
  have hP : va_P D vwCl [(h0, .inr (2, [.int 0, .ref q_1, .ref q_2, .null])), (q_1, .inl (cy 1, 128, .inl (fun _ => 0))), (q_2, .inl (cy 1, 128, .inl (fun _ => 0)))] H := hP
  have hD := gp_sD hP hD
  refine lv_aload_n hx hb dX2_init_22 rfl (lv_at hl 0 rfl) ?_
  refine lv_sipush (v := 128) hx hb dX2_init_23 (by decide) ?_
  refine gp_newa (atype := .int) (ty := .int) (n := 128) (N' := 128) (a0 := (128, .inl (fun _ => 0))) hx hb (hts (.arrayClass .int) (List.mem_of_getElem? (i := 4) rfl)) rfl hK hP hD hS hA 1 rfl (fun _ => rfl) (by decide) (by decide) (by decide) (Nat.le_of_ble_eq_true rfl) (Nat.le_of_ble_eq_true rfl) dX2_init_26 (fun q_3 H hP hD hS => ?_)
  have hP : va_P D vwCl [(h0, .inr (2, [.int 0, .ref q_1, .ref q_2, .null])), (q_1, .inl (cy 1, 128, .inl (fun _ => 0))), (q_2, .inl (cy 1, 128, .inl (fun _ => 0))), (q_3, .inl (cy 1, 128, .inl (fun _ => 0)))] H := hP
  have hD := gp_sD hP hD
  refine W.widen (k := 3) (n := 384) (Nat.le_of_ble_eq_true rfl) (Nat.le_of_ble_eq_true rfl) ?_
  refine va_putF (D := D) (ci := 2) (v := .ref q_3) (ty := (.array .int)) (C := RX2) (T := TX2) (N := 4) hx hb hts hiX2 tyX2 tyX2_ok nmX2 hown hK hP hD hS 0 rfl rfl 3 (by decide) (hts (.fieldLink RX2 16 "GhostPane$Code" "second" "[I") (List.mem_of_getElem? (i := 7) rfl)) (fun _ h9 => h9) rfl hin rfl (by decide +kernel) rfl rfl (Nat.le_of_ble_eq_true rfl) dX2_init_28 (fun H locs hP hD hS => ?_)
  have hP : va_P D vwCl [(h0, .inr (2, [.int 0, .ref q_1, .ref q_2, .ref q_3])), (q_1, .inl (cy 1, 128, .inl (fun _ => 0))), (q_2, .inl (cy 1, 128, .inl (fun _ => 0))), (q_3, .inl (cy 1, 128, .inl (fun _ => 0)))] H := hP
  have hD := gp_sD hP hD
  exact W.vret hx hb hr (fun t ht hW => ⟨⟨(q_1, q_2, q_3), rfl, trivial, gp_end ht (hP.sub (ws' := [(h0, .inr (2, [.int 0, .ref q_1, .ref q_2, .ref q_3])), (q_1, .inl (cy 1, 128, .inl (fun _ => 0))), (q_2, .inl (cy 1, 128, .inl (fun _ => 0))), (q_3, .inl (cy 1, 128, .inl (fun _ => 0)))]) [0, 1, 2, 3] rfl) (hD.sub (ws' := [(h0, .inr (2, [.int 0, .ref q_1, .ref q_2, .ref q_3])), (q_1, .inl (cy 1, 128, .inl (fun _ => 0))), (q_2, .inl (cy 1, 128, .inl (fun _ => 0))), (q_3, .inl (cy 1, 128, .inl (fun _ => 0)))]) [0, 1, 2, 3] (by decide) rfl)⟩, hS.F ht⟩) hS.2.2 dX2_init_31
