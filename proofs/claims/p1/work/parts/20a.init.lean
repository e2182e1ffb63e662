section GPC
variable {p : Program} {l : Launch} {e : Env} {R : Room} {s : State} {m : MethodId} {args : Array Value} {below : List Frame} {meth : Method} {c : Code} {H : Heap} {locs : List Loc} {cells slots : Nat} {Q : State → Prop}
variable {cc : ByteArray} {pc : Nat} {ls : Array Slot} {rest : List Value} {D : va_G} {cl : List vw_C} {A : Nat → Prop} {a : Nat} {tys : List (ClassId × FieldType)} {ws : va_W} {H0 : Heap}
theorem gp_newq (hexec : p.tables.exec = Jvm.exec) (hb : c.code = cc) {own C : String} {index : Nat} (hown : s.vm.findClass own = some m.cls) (hclink : (Cond.classLink own index C).before args s = true) (hover : va_AO C s) (hK : va_K D cl tys s) (hP : va_P D cl ws H) (hD : va_D A ws) (hS : va_S A H0 H locs) (hA : ∀ q, H0.size ≤ q → A q) (t0 : Nat) {cy : ClassId} (ht : tys[t0]? = some (cy, .object C))
    {n : Int32} {N' : Nat} (hn : ¬ n < 0) (hN : n.toNatClampNeg = N') (hbytes : N' * 4 ≤ 536870912) (hcells : cells + 1 ≤ R.cells) (hslots : slots + N' ≤ R.slots) (hdg : decode cc pc = .ok (.anewarray index, 3))
    (kk : ∀ (q : Nat) (H1 : Heap), va_P D cl (ws ++ [(q, .inl (cy, N', .inr (.inr (.inr (.inr (fun _ => none))))))]) H1 → va_D A (ws ++ [(q, .inl (cy, N', .inr (.inr (.inr (.inr (fun _ => none))))))]) → va_S A H0 H1 locs →
      W p l e R s m args below meth c H1 locs (cells + 1) (slots + N') Q (F0 m (pc + 3) ls (.ref q :: rest))) : W p l e R s m args below meth c H locs cells slots Q (F0 m pc ls (.int n :: rest)) := by
  refine va_newq hexec hb hown hclink hover hK hP hD hS hA hn hN hbytes hcells hslots hdg (fun q cA H1 hK1 hP1 hD1 hS1 => ?_)
  have e : cA = cy := by
    obtain ⟨-, -, -, -, -, h1⟩ := (hK1.2 tys.length (cA, .object C) (by simp)).2
    obtain ⟨-, -, -, -, -, h2⟩ := (hK.2 t0 (cy, .object C) ht).2
    exact Option.some.inj (h1.symm.trans h2)
  subst e
  exact kk q H1 hP1 hD1 hS1
theorem gp_plr {n : Nat} {r : Nat → Nat} {f : Nat → va_E} {e : va_E} : va_pl ([] ++ (List.range n).map r) (vr_up f ((List.range n).map r) e) = gp_R n (fun i => (r i, e)) := by
  unfold va_pl gp_R
  rw [List.nil_append, List.map_map]
  apply List.map_congr_left
  intro i hi
  show (r i, vr_up f ((List.range n).map r) e (r i)) = (r i, e)
  rw [vr_up_in (List.mem_map_of_mem hi)]
theorem gp_mna {ty : FieldType} {c1 c2 : ClassId} (hexec : p.tables.exec = Jvm.exec) (hb : c.code = cc) {own : String} {index : Nat} (hown : s.vm.findClass own = some m.cls) (hclink : (Cond.classLink own index ("[" ++ (FieldType.array ty).toString)).before args s = true) (hover : va_AOA ty s) (harr : (Cond.arrayClass ty).before args s = true)
    (hK : va_K D cl tys s) (hcy : s.vm.findClass (FieldType.array ty).toString = some c1) (t2 : Nat) (ht2 : tys[t2]? = some (c2, .array ty)) (hP : va_P D cl ws H) (hD : va_D A ws) (hS : va_S A H0 H locs) (hA : ∀ q, H0.size ≤ q → A q) {n k : Int32} {N' K' : Nat} {z : vp_A} (hn : ¬ n < 0) (hk : ¬ k < 0) (hN : n.toNatClampNeg = N') (hM : k.toNatClampNeg = K')
    (hb1 : N' * 4 ≤ 536870912) (hb2 : K' * componentBytes ty ≤ 536870912) (hb3 : K' ≤ 536870912) (hdf : fits ty (defaultValue ty) = true) (hdd : (defaultValue ty).isDefault = true) (hcells : cells + (1 + N') ≤ R.cells) (hslots : slots + (N' + N' * K') ≤ R.slots) (hz : ∀ c : ClassId, Jvm.Free.Multi.innerC c K' (defaultValue ty) = vp_cell c z) (hdg : decode cc pc = .ok (.multianewarray index 2, 4))
    (kk : ∀ (q : Nat) (r : Nat → Nat) (H1 : Heap), va_P D cl ((ws ++ [(q, .inl (c2, N', .inr (.inr (.inr (.inr (fun i => if i < N' then some (r i) else none))))))]) ++ gp_R N' (fun i => (r i, .inl (c1, z)))) H1 → va_D A ((ws ++ [(q, .inl (c2, N', .inr (.inr (.inr (.inr (fun i => if i < N' then some (r i) else none))))))]) ++ gp_R N' (fun i => (r i, .inl (c1, z)))) → va_S A H0 H1 locs →
      W p l e R s m args below meth c H1 locs (cells + 1 + N') (slots + N' + N' * K') Q (F0 m (pc + 4) ls (.ref q :: rest))) : W p l e R s m args below meth c H locs cells slots Q (F0 m pc ls (.int k :: .int n :: rest)) := by
  have e0 : ws ++ va_pl [] (fun _ => .inl (c1, z)) = ws := List.append_nil ws
  refine va_mna (X := ws) (L := []) (f := fun _ => .inl (c1, z)) hexec hb hown hclink hover harr hcy hK (by rw [e0]; exact hP) (by rw [e0]; exact hD) hS hA hn hk hN hM hb1 hb2 hb3 hdf hdd hcells hslots hz hdg (fun q r cA H1 _ _ hK1 hP1 hD1 hS1 => ?_)
  have e : cA = c2 := by
    have h1 : s.vm.findClass ("[" ++ (FieldType.array ty).toString) = some cA := (hK1.2 tys.length (cA, .array ty) (by simp)).2
    have h2 : s.vm.findClass ("[" ++ (FieldType.array ty).toString) = some c2 := (hK.2 t2 (c2, .array ty) ht2).2
    exact Option.some.inj (h1.symm.trans h2)
  subst e
  rw [gp_plr] at hP1 hD1
  exact kk q r H1 hP1 hD1 hS1
end GPC
theorem gp_innerI (c : ClassId) {K : Nat} : Jvm.Free.Multi.innerC c K (defaultValue .int) = vp_cell c (K, .inl (fun _ => 0)) := by
  show ({ cls := c, slots := Array.replicate K (.int 0), vm := .none } : Cell) = _
  rw [arrV_new]
  rfl
theorem gp_innerJ (c : ClassId) {K : Nat} : Jvm.Free.Multi.innerC c K (defaultValue .long) = vp_cell c (K, .inr (.inl (fun _ => 0))) := by
  show ({ cls := c, slots := Array.replicate K (.long 0), vm := .none } : Cell) = _
  rw [arrV_new]
  rfl
/-- the addresses of a new object's cells, by number -/
abbrev gp_ad (l : List Nat) (r1 r2 r3 : Nat → Nat) : Nat → Nat := fun k => if k < 100 then l.getD k 0 else if k < 120 then r1 (k - 100) else if k < 140 then r2 (k - 120) else r3 (k - 140)
theorem gp_ad1 (l : List Nat) (r1 r2 r3 : Nat → Nat) : (fun i => if i < 12 then some (r1 i) else none) = (fun i => if i < 12 then some (gp_ad l r1 r2 r3 (100 + i)) else none) := by
  funext i
  by_cases h : i < 12
  · have e1 : ¬ 100 + i < 100 := by omega
    have e2 : 100 + i < 120 := by omega
    simp only [h, if_true, gp_ad, if_neg e1, if_pos e2, Nat.add_sub_cancel_left]
  · simp [h]
theorem gp_ad2 (l : List Nat) (r1 r2 r3 : Nat → Nat) : (fun i => if i < 8 then some (r2 i) else none) = (fun i => if i < 8 then some (gp_ad l r1 r2 r3 (120 + i)) else none) := by
  funext i
  by_cases h : i < 8
  · have e1 : ¬ 120 + i < 100 := by omega
    have e2 : ¬ 120 + i < 120 := by omega
    have e3 : 120 + i < 140 := by omega
    simp only [h, if_true, gp_ad, if_neg e1, if_neg e2, if_pos e3, Nat.add_sub_cancel_left]
  · simp [h]
theorem gp_ad3 (l : List Nat) (r1 r2 r3 : Nat → Nat) : (fun i => if i < 12 then some (r3 i) else none) = (fun i => if i < 12 then some (gp_ad l r1 r2 r3 (140 + i)) else none) := by
  funext i
  by_cases h : i < 12
  · have e1 : ¬ 140 + i < 100 := by omega
    have e2 : ¬ 140 + i < 120 := by omega
    have e3 : ¬ 140 + i < 140 := by omega
    simp only [h, if_true, gp_ad, if_neg e1, if_neg e2, if_neg e3, Nat.add_sub_cancel_left]
  · simp [h]

