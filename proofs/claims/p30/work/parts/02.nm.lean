/-! ===== BEGIN words of one list among another's, by their places ===== -/
theorem goodIn_r {big : List Cond} (ws : List Cond) (ps : List Nat) (hp : ws = ps.filterMap (fun i => big[i]?)) (h : ws.all goodWord = true) : GoodIn big ws := by
  intro w hw
  have h1 := List.all_eq_true.mp h w hw
  rw [hp] at hw
  obtain ⟨i, -, hi⟩ := List.mem_filterMap.mp hw
  have hm : w ∈ big := by first | exact List.mem_of_getElem? hi | exact List.getElem?_mem hi
  exact ⟨hm, good_of_word h1⟩
theorem goodIn_app {big a b : List Cond} (ha : GoodIn big a) (hb : GoodIn big b) : GoodIn big (a ++ b) := fun w h => (List.mem_append.mp h).elim (ha w) (hb w)
theorem goodIn_ca {big a b : List Cond} {c : Cond} (ha : GoodIn big (c :: a)) (hb : GoodIn big b) : GoodIn big (c :: (a ++ b)) := fun w h => (List.mem_cons.mp h).elim (fun e => ha w (List.mem_cons.mpr (Or.inl e))) (fun h => (List.mem_append.mp h).elim (fun h => ha w (List.mem_cons.mpr (Or.inr h))) (hb w))
theorem goodIn_sub {big ws : List Cond} (hm : ∀ w ∈ ws, w ∈ big) (h : ws.all goodWord = true) : GoodIn big ws := fun w hw => ⟨hm w hw, good_of_word (List.all_eq_true.mp h w hw)⟩
/-! ===== END ===== -/
def va_AOA (t : FieldType) (U : State) : Prop := (Cond.arrayOver (.array t)).before #[] U = true
theorem va_AOA.of {t : FieldType} {A : Array Value} {U : State} (h : (Cond.arrayOver (.array t)).before A U = true) : va_AOA t U := h
theorem va_AOA.use {t : FieldType} {A : Array Value} {U : State} (h : va_AOA t U) : (Cond.arrayOver (.array t)).before A U = true := h
/-! ===== BEGIN new T[n][m]: the outer array a place, the inner ones among the pooled ===== -/
/-- f, but v at every address of l -/
def vr_up {α : Type} (f : Nat → α) (l : List Nat) (v : α) : Nat → α := fun a => if a ∈ l then v else f a
theorem vr_up_in {α : Type} {f : Nat → α} {l : List Nat} {v : α} {a : Nat} (h : a ∈ l) : vr_up f l v a = v := if_pos h
theorem vr_up_ne {α : Type} {f : Nat → α} {l : List Nat} {v : α} {a : Nat} (h : a ∉ l) : vr_up f l v a = f a := if_neg h
theorem vr_rows {L l : List Nat} {f : Nat → va_E} {e : va_E} (h : ∀ a, a ∈ l → a ∉ L) : va_pl L f ++ l.map (fun a => (a, e)) = va_pl (L ++ l) (vr_up f l e) := by
  unfold va_pl
  rw [List.map_append]
  congr 1
  · apply List.map_congr_left
    intro a ha
    rw [vr_up_ne (fun q => h a q ha)]
  · apply List.map_congr_left
    intro a ha
    rw [vr_up_in ha]
theorem vr_lay {X rows : va_W} {x : Nat × va_E} {pl : va_W} {D : va_G} {cl : List vw_C} {H : Heap} (hP : va_P D cl (((X ++ pl) ++ [x]) ++ rows) H) : va_P D cl ((X ++ [x]) ++ (pl ++ rows)) H := by
  rw [List.append_assoc (X ++ pl)] at hP
  have h := va_P.swap hP
  rw [← List.append_assoc X] at h
  have h2 := va_P.swap h
  rw [List.append_assoc (X ++ [x])] at h2
  exact h2
theorem vr_layD {X rows : va_W} {x : Nat × va_E} {pl : va_W} {A : Nat → Prop} (hD : va_D A (((X ++ pl) ++ [x]) ++ rows)) : va_D A ((X ++ [x]) ++ (pl ++ rows)) := by
  rw [List.append_assoc (X ++ pl)] at hD
  have h := va_D.swap hD
  rw [← List.append_assoc X] at h
  have h2 := va_D.swap h
  rw [List.append_assoc (X ++ [x])] at h2
  exact h2
theorem vr_outer (c : ClassId) (N h0 : Nat) : ∀ i : Nat, Jvm.Free.Multi.outerC c N h0 i = arrV c N (fun j => va_rf (if j < i then some (h0 + 1 + j) else none))
  | 0 => by
    show ({ cls := c, slots := Array.replicate N .null, vm := .none } : Cell) = _
    rw [arrV_new]
    refine congrArg (arrV c N) (funext fun j => ?_)
    simp [va_rf]
  | i + 1 => by
    show (Jvm.Free.Multi.outerC c N h0 i).setSlot i (.ref (h0 + 1 + i)) = _
    rw [vr_outer c N h0 i, arrV_store]
    refine congrArg (arrV c N) (funext fun j => ?_)
    by_cases e : j = i
    · subst e
      simp [updV, va_rf]
    · by_cases h : j < i
      · simp [updV, e, h, Nat.lt_succ_of_lt h]
      · simp [updV, e, h, show ¬ j < i + 1 by omega]
section VGM
variable {p : Program} {l : Launch} {e : Env} {R : Room} {s : State} {m : MethodId} {args : Array Value} {below : List Frame} {meth : Method} {c : Code} {H : Heap} {locs : List Loc} {cells slots : Nat} {Q : State → Prop}
variable {cc : ByteArray} {pc : Nat} {ls : Array Slot} {rest : List Value} {D : va_G} {cl : List vw_C} {A : Nat → Prop} {a : Nat} {tys : List (ClassId × FieldType)} {ws : va_W} {H0 : Heap}
theorem va_mna {X : va_W} {L : List Nat} {f : Nat → va_E} {cc : ByteArray} (hexec : p.tables.exec = Jvm.exec) (hb : c.code = cc) {own : String} {index : Nat} {ty : FieldType} {cy : ClassId} (hown : s.vm.findClass own = some m.cls) (hclink : (Cond.classLink own index ("[" ++ (FieldType.array ty).toString)).before args s = true) (hover : va_AOA ty s) (harr : (Cond.arrayClass ty).before args s = true) (hcy : s.vm.findClass (FieldType.array ty).toString = some cy)
    (hK : va_K D cl tys s) (hP : va_P D cl (X ++ va_pl L f) H) (hD : va_D A (X ++ va_pl L f)) (hS : va_S A H0 H locs) (hA : ∀ q, H0.size ≤ q → A q) {n k : Int32} {N' K' : Nat} {z : vp_A} (hn : ¬ n < 0) (hk : ¬ k < 0) (hN : n.toNatClampNeg = N') (hM : k.toNatClampNeg = K')
    (hb1 : N' * 4 ≤ 536870912) (hb2 : K' * componentBytes ty ≤ 536870912) (hb3 : K' ≤ 536870912) (hdf : fits ty (defaultValue ty) = true) (hdd : (defaultValue ty).isDefault = true) (hcells : cells + (1 + N') ≤ R.cells) (hslots : slots + (N' + N' * K') ≤ R.slots) (hz : ∀ c : ClassId, Jvm.Free.Multi.innerC c K' (defaultValue ty) = vp_cell c z) (hdg : decode cc pc = .ok (.multianewarray index 2, 4))
    (kk : ∀ (q : Nat) (r : Nat → Nat) (cA : ClassId) (H1 : Heap), (∀ i j : Nat, i < N' → j < N' → r i = r j → i = j) → (∀ i : Nat, i < N' → r i ∉ L) → va_K D cl (tys ++ [(cA, .array ty)]) s →
      va_P D cl ((X ++ [(q, .inl (cA, N', .inr (.inr (.inr (.inr (fun i => if i < N' then some (r i) else none))))))]) ++ va_pl (L ++ (List.range N').map r) (vr_up f ((List.range N').map r) (.inl (cy, z)))) H1 → va_D A ((X ++ [(q, .inl (cA, N', .inr (.inr (.inr (.inr (fun i => if i < N' then some (r i) else none))))))]) ++ va_pl (L ++ (List.range N').map r) (vr_up f ((List.range N').map r) (.inl (cy, z)))) → va_S A H0 H1 locs →
      W p l e R s m args below meth c H1 locs (cells + 1 + N') (slots + N' + N' * K') Q (F0 m (pc + 4) ls (.ref q :: rest))) : W p l e R s m args below meth c H locs cells slots Q (F0 m pc ls (.int k :: .int n :: rest)) := by
  subst hN
  subst hM
  intro T hT Xs
  obtain ⟨vm₁, cA, comp, -, fA, fC, hO, -, X', step⟩ := Xs.multianewarray2F hexec hown hclink (va_AOA.use hover) harr (g := F0 m pc ls (.int k :: .int n :: rest)) rfl (by rw [hb]; exact hdg) rfl hn hk hb1 hb2 hb3 hdf hdd hcells hslots
  have ec : some cy = some comp := hcy.symm.trans fC
  cases ec
  generalize hF : Jvm.Free.Multi.fill (T.setVm vm₁) cA cy n.toNatClampNeg k.toNatClampNeg (defaultValue ty) n.toNatClampNeg = F at X' step
  have hTh : (T.setVm vm₁).heap = H := hT
  obtain ⟨f1, f2, -, -⟩ := Jvm.Free.Multi.fill_facts (T.setVm vm₁) cA cy n.toNatClampNeg k.toNatClampNeg (defaultValue ty) n.toNatClampNeg
  rw [hF, hTh] at f1 f2
  have hold : ∀ x : Nat, x < H.size → F.heap[x]? = H[x]? := fun x hx => by
    have := Jvm.Free.Multi.fill_old (T.setVm vm₁) cA cy n.toNatClampNeg k.toNatClampNeg (defaultValue ty) (a := x) (by rw [hTh]; exact hx) n.toNatClampNeg
    rw [hF, hTh] at this
    exact this
  have hrow : ∀ j : Nat, j < n.toNatClampNeg → F.heap[H.size + 1 + j]? = some (vp_cell cy z) := fun j hj => by
    have := Jvm.Free.Multi.fill_inner (T.setVm vm₁) cA cy n.toNatClampNeg k.toNatClampNeg (defaultValue ty) n.toNatClampNeg j hj
    rw [hF, hTh, hz] at this
    exact this
  have hout : Jvm.Free.Multi.outerC cA n.toNatClampNeg H.size n.toNatClampNeg = vp_cell cA (n.toNatClampNeg, .inr (.inr (.inr (.inr (fun i => if i < n.toNatClampNeg then some (H.size + 1 + i) else none))))) := by
    rw [vp_cell_q]
    exact vr_outer cA n.toNatClampNeg H.size n.toNatClampNeg
  rw [hout] at f2
  have hlt : ∀ a, a ∈ L → a < H.size := fun a ha => by
    obtain ⟨k9, hk9⟩ := va_pl_get (X := X) (f := f) ha
    exact (hP k9 _ hk9).lt
  have hnl : ∀ i : Nat, i < n.toNatClampNeg → H.size + 1 + i ∉ L := fun i _ h => by
    have := hlt _ h
    omega
  have hnm : ∀ a, a ∈ (List.range n.toNatClampNeg).map (fun i => H.size + 1 + i) → a ∉ L := fun a ha h => by
    obtain ⟨i, -, rfl⟩ := List.mem_map.mp ha
    have := hlt _ h
    omega
  have hP0 : va_P D cl (X ++ va_pl L f) F.heap := hP.kept (fun k9 x hx => hold x.1 ((hP k9 x hx).lt))
  have hP1 : va_P D cl ((X ++ va_pl L f) ++ [(H.size, .inl (cA, n.toNatClampNeg, .inr (.inr (.inr (.inr (fun i => if i < n.toNatClampNeg then some (H.size + 1 + i) else none))))))]) F.heap := hP0.app (fun k9 x hx => by
    have h0 : k9 < 1 := (List.getElem?_eq_some_iff.mp hx).1
    rw [show k9 = 0 by omega] at hx
    cases hx
    exact f2)
  have hP2 : va_P D cl (((X ++ va_pl L f) ++ [(H.size, .inl (cA, n.toNatClampNeg, .inr (.inr (.inr (.inr (fun i => if i < n.toNatClampNeg then some (H.size + 1 + i) else none))))))]) ++ ((List.range n.toNatClampNeg).map (fun i => H.size + 1 + i)).map (fun a => (a, .inl (cy, z)))) F.heap := hP1.app (fun k9 x hx => by
    obtain ⟨a, ha, rfl⟩ := List.mem_map.mp (List.mem_of_getElem? hx)
    obtain ⟨i, hi, rfl⟩ := List.mem_map.mp ha
    exact hrow i (List.mem_range.mp hi))
  have hD2 : va_D A (((X ++ va_pl L f) ++ [(H.size, .inl (cA, n.toNatClampNeg, .inr (.inr (.inr (.inr (fun i => if i < n.toNatClampNeg then some (H.size + 1 + i) else none))))))]) ++ ((List.range n.toNatClampNeg).map (fun i => H.size + 1 + i)).map (fun a => (a, .inl (cy, z)))) := by
    have hD1 := hD.push (e := .inl (cA, n.toNatClampNeg, .inr (.inr (.inr (.inr (fun i => if i < n.toNatClampNeg then some (H.size + 1 + i) else none)))))) hP rfl (hA _ hS.1)
    generalize hW1 : (X ++ va_pl L f) ++ [(H.size, .inl (cA, n.toNatClampNeg, .inr (.inr (.inr (.inr (fun i => if i < n.toNatClampNeg then some (H.size + 1 + i) else none))))))] = W1 at hD1 hP1 ⊢
    have hle : ∀ (k9 : Nat) (x : Nat × va_E), W1[k9]? = some x → x.1 ≤ H.size := fun k9 x hx => by
      rw [← hW1] at hx
      by_cases hl : k9 < (X ++ va_pl L f).length
      · rw [List.getElem?_append_left hl] at hx
        exact Nat.le_of_lt ((hP k9 x hx).lt)
      · rw [List.getElem?_append_right (by omega)] at hx
        have h0 : k9 - (X ++ va_pl L f).length < 1 := (List.getElem?_eq_some_iff.mp hx).1
        rw [show k9 - (X ++ va_pl L f).length = 0 by omega] at hx
        cases hx
        exact Nat.le_refl _
    have hr : ∀ (k9 : Nat) (x : Nat × va_E), (((List.range n.toNatClampNeg).map (fun i => H.size + 1 + i)).map (fun a => ((a, .inl (cy, z)) : Nat × va_E)))[k9]? = some x → x.1 = H.size + 1 + k9 := fun k9 x hx => by
      rw [List.getElem?_map, List.getElem?_map] at hx
      by_cases h9 : k9 < n.toNatClampNeg
      · rw [List.getElem?_range h9] at hx
        cases hx
        rfl
      · have hn0 : (List.range n.toNatClampNeg)[k9]? = none := List.getElem?_eq_none (by rw [List.length_range]; omega)
        rw [hn0] at hx
        cases hx
    refine ⟨fun i j x y hi hj hxy => ?_, fun k9 x hx => ?_⟩
    · by_cases h1 : i < W1.length <;> by_cases h2 : j < W1.length
      · rw [List.getElem?_append_left h1] at hi
        rw [List.getElem?_append_left h2] at hj
        exact hD1.1 i j x y hi hj hxy
      · rw [List.getElem?_append_left h1] at hi
        rw [List.getElem?_append_right (by omega)] at hj
        have := hle _ _ hi
        have := hr _ _ hj
        omega
      · rw [List.getElem?_append_right (by omega)] at hi
        rw [List.getElem?_append_left h2] at hj
        have := hle _ _ hj
        have := hr _ _ hi
        omega
      · rw [List.getElem?_append_right (by omega)] at hi hj
        have := hr _ _ hi
        have := hr _ _ hj
        omega
    · by_cases h1 : k9 < W1.length
      · rw [List.getElem?_append_left h1] at hx
        exact hD1.2 k9 x hx
      · rw [List.getElem?_append_right (by omega)] at hx
        have := hr _ _ hx
        exact hA _ (by have := hS.1; omega)
  have hAr : ArrOfT s cA (.array ty) := fun N9 z9 => by
    obtain ⟨-, k9, hk9, cm9, hkk9⟩ := (hO 0 0 0).1
    exact ⟨(fun q hq => by cases hq), k9, hk9, cm9, hkk9⟩
  have hK2 : va_K D cl (tys ++ [(cA, .array ty)]) s := ⟨hK.1, fun k9 x hx => by
    by_cases hl : k9 < tys.length
    · rw [List.getElem?_append_left hl] at hx
      exact hK.2 k9 x hx
    · rw [List.getElem?_append_right (by omega)] at hx
      have h0 : k9 - tys.length < 1 := (List.getElem?_eq_some_iff.mp hx).1
      rw [show k9 - tys.length = 0 by omega] at hx
      cases hx
      exact ⟨hAr, fA⟩⟩
  obtain ⟨t, a1, b1⟩ := kk H.size (fun i => H.size + 1 + i) cA F.heap (fun i j _ _ h => by have h9 : H.size + 1 + i = H.size + 1 + j := h; omega) hnl hK2 (by rw [← vr_rows hnm]; exact vr_lay hP2) (by rw [← vr_rows hnm]; exact vr_layD hD2) ⟨by rw [f1]; have := hS.1; omega, fun x h1 h2 => (hold x (Nat.lt_of_lt_of_le h1 hS.1)).trans (hS.2.1 x h1 h2), hS.2.2⟩ F rfl X'
  refine ⟨t, step t ?_, b1⟩
  have e : T.heap.size = H.size := by rw [hT]
  rw [e]
  exact a1
end VGM
/-! ===== END ===== -/
def RX0 : String := "GhostPane$Body"
def TX0 : u_T := fun k => match k with
  | 0 => ("GhostPane$Body", "start", "I", false)
  | 1 => ("GhostPane$Body", "times", "I", false)
  | 2 => ("GhostPane$Body", "counts", "I", false)
  | 3 => ("GhostPane$Body", "spot", "I", false)
  | 4 => ("GhostPane$Body", "light", "I", false)
  | 5 => ("GhostPane$Body", "nameFrom", "I", false)
  | _ => ("GhostPane$Body", "nameTo", "I", false)
def tyX0 : Nat → FieldType := fun k => match k with
  | 0 => .int
  | 1 => .int
  | 2 => .int
  | 3 => .int
  | 4 => .int
  | 5 => .int
  | _ => .int
abbrev wsX00 : List Cond := u_ws RX0 TX0 7
theorem nmX0 : ∀ a, a < 7 → ∀ b, b < 7 → a ≠ b → (TX0 a).2.1 ≠ (TX0 b).2.1 := by decide +kernel
theorem tyX0_ok : ∀ k, k < 7 → parseFieldDescriptor (TX0 k).2.2.1 = some (tyX0 k) := by decide +kernel
abbrev cX0_init : ByteArray := prog_2_method_1_code
def yX0_init : MethodName := ⟨RX0, "<init>", "()V"⟩
abbrev cX0_begin : ByteArray := prog_2_method_2_code
def yX0_begin : MethodName := ⟨RX0, "begin", "(II)V"⟩
abbrev cX0_addCounts : ByteArray := prog_2_method_3_code
def yX0_addCounts : MethodName := ⟨RX0, "addCounts", "(I)V"⟩
abbrev cX0_put : ByteArray := prog_2_method_4_code
def yX0_put : MethodName := ⟨RX0, "put", "(II)V"⟩
def RX1 : String := "GhostPane$Book"
def TX1 : u_T := fun k => match k with
  | 0 => ("GhostPane$Book", "acts", "I", false)
  | 1 => ("GhostPane$Book", "sums", "[I", true)
  | 2 => ("GhostPane$Book", "seatOf", "[I", true)
  | 3 => ("GhostPane$Book", "countOf", "[I", true)
  | 4 => ("GhostPane$Book", "sawIt", "[Z", true)
  | 5 => ("GhostPane$Book", "voided", "[Z", true)
  | 6 => ("GhostPane$Book", "target", "[I", true)
  | 7 => ("GhostPane$Book", "least", "[I", true)
  | _ => ("GhostPane$Book", "likeliest", "[I", true)
def tyX1 : Nat → FieldType := fun k => match k with
  | 0 => .int
  | 1 => .array .int
  | 2 => .array .int
  | 3 => .array .int
  | 4 => .array .boolean
  | 5 => .array .boolean
  | 6 => .array .int
  | 7 => .array .int
  | _ => .array .int
abbrev wsX10 : List Cond := u_ws RX1 TX1 9
theorem nmX1 : ∀ a, a < 9 → ∀ b, b < 9 → a ≠ b → (TX1 a).2.1 ≠ (TX1 b).2.1 := by decide +kernel
theorem tyX1_ok : ∀ k, k < 9 → parseFieldDescriptor (TX1 k).2.2.1 = some (tyX1 k) := by decide +kernel
abbrev cX1_init : ByteArray := prog_3_method_1_code
def yX1_init : MethodName := ⟨RX1, "<init>", "()V"⟩
abbrev cX1_isFull : ByteArray := prog_3_method_2_code
def yX1_isFull : MethodName := ⟨RX1, "isFull", "()Z"⟩
abbrev cX1_addReport : ByteArray := prog_3_method_3_code
def yX1_addReport : MethodName := ⟨RX1, "addReport", "(IIZ)I"⟩
abbrev cX1_canVoid : ByteArray := prog_3_method_4_code
def yX1_canVoid : MethodName := ⟨RX1, "canVoid", "(I)Z"⟩
abbrev cX1_addVoid : ByteArray := prog_3_method_5_code
def yX1_addVoid : MethodName := ⟨RX1, "addVoid", "(I)I"⟩
abbrev cX1_knownAt : ByteArray := prog_3_method_6_code
def yX1_knownAt : MethodName := ⟨RX1, "knownAt", "(I)I"⟩
abbrev cX1_tally : ByteArray := prog_3_method_7_code
def yX1_tally : MethodName := ⟨RX1, "tally", "(LGhostPane$Show;I)V"⟩
abbrev cX1_clearLikely : ByteArray := prog_3_method_8_code
def yX1_clearLikely : MethodName := ⟨RX1, "clearLikely", "()V"⟩
abbrev cX1_keepLikely : ByteArray := prog_3_method_9_code
def yX1_keepLikely : MethodName := ⟨RX1, "keepLikely", "(I)V"⟩
abbrev cX1_firstOfLastLikely : ByteArray := prog_3_method_10_code
def yX1_firstOfLastLikely : MethodName := ⟨RX1, "firstOfLastLikely", "()I"⟩
def RX2 : String := "GhostPane$Code"
def TX2 : u_T := fun k => match k with
  | 0 => ("GhostPane$Code", "size", "I", false)
  | 1 => ("GhostPane$Code", "kind", "[I", true)
  | 2 => ("GhostPane$Code", "first", "[I", true)
  | _ => ("GhostPane$Code", "second", "[I", true)
def tyX2 : Nat → FieldType := fun k => match k with
  | 0 => .int
  | 1 => .array .int
  | 2 => .array .int
  | _ => .array .int
abbrev wsX20 : List Cond := u_ws RX2 TX2 4
theorem nmX2 : ∀ a, a < 4 → ∀ b, b < 4 → a ≠ b → (TX2 a).2.1 ≠ (TX2 b).2.1 := by decide +kernel
theorem tyX2_ok : ∀ k, k < 4 → parseFieldDescriptor (TX2 k).2.2.1 = some (tyX2 k) := by decide +kernel
abbrev cX2_init : ByteArray := prog_4_method_1_code
def yX2_init : MethodName := ⟨RX2, "<init>", "()V"⟩
abbrev cX2_add : ByteArray := prog_4_method_2_code
def yX2_add : MethodName := ⟨RX2, "add", "(III)V"⟩
abbrev cX2_pointPast : ByteArray := prog_4_method_3_code
def yX2_pointPast : MethodName := ⟨RX2, "pointPast", "(I)V"⟩
def RX3 : String := "GhostPane$Glass"
def TX3 : u_T := fun k => match k with
  | 0 => ("GhostPane$Glass", "len", "J", false)
  | 1 => ("GhostPane$Glass", "deep", "I", false)
  | 2 => ("GhostPane$Glass", "ends2", "[[J", true)
  | 3 => ("GhostPane$Glass", "stands", "[Z", true)
  | 4 => ("GhostPane$Glass", "ax2", "J", false)
  | 5 => ("GhostPane$Glass", "ay2", "J", false)
  | 6 => ("GhostPane$Glass", "cx", "J", false)
  | 7 => ("GhostPane$Glass", "cy", "J", false)
  | 8 => ("GhostPane$Glass", "along", "J", false)
  | 9 => ("GhostPane$Glass", "whole", "J", false)
  | 10 => ("GhostPane$Glass", "xTimes", "J", false)
  | 11 => ("GhostPane$Glass", "yTimes", "J", false)
  | 12 => ("GhostPane$Glass", "fromX2", "J", false)
  | 13 => ("GhostPane$Glass", "fromY2", "J", false)
  | 14 => ("GhostPane$Glass", "goX", "J", false)
  | _ => ("GhostPane$Glass", "goY", "J", false)
def tyX3 : Nat → FieldType := fun k => match k with
  | 0 => .long
  | 1 => .int
  | 2 => .array (.array .long)
  | 3 => .array .boolean
  | 4 => .long
  | 5 => .long
  | 6 => .long
  | 7 => .long
  | 8 => .long
  | 9 => .long
  | 10 => .long
  | 11 => .long
  | 12 => .long
  | 13 => .long
  | 14 => .long
  | _ => .long
abbrev wsX30 : List Cond := u_ws RX3 TX3 16
theorem nmX3 : ∀ a, a < 16 → ∀ b, b < 16 → a ≠ b → (TX3 a).2.1 ≠ (TX3 b).2.1 := by decide +kernel
theorem tyX3_ok : ∀ k, k < 16 → parseFieldDescriptor (TX3 k).2.2.1 = some (tyX3 k) := by decide +kernel
abbrev cX3_init : ByteArray := prog_5_method_1_code
def yX3_init : MethodName := ⟨RX3, "<init>", "()V"⟩
abbrev cX3_lay : ByteArray := prog_5_method_2_code
def yX3_lay : MethodName := ⟨RX3, "lay", "(LGhostPane$Room;III)V"⟩
abbrev cX3_twiceAlong : ByteArray := prog_5_method_3_code
def yX3_twiceAlong : MethodName := ⟨RX3, "twiceAlong", "(JJ)J"⟩
abbrev cX3_twiceOff : ByteArray := prog_5_method_4_code
def yX3_twiceOff : MethodName := ⟨RX3, "twiceOff", "(JJ)J"⟩
abbrev cX3_mirroredX : ByteArray := prog_5_method_5_code
def yX3_mirroredX : MethodName := ⟨RX3, "mirroredX", "(II)J"⟩
abbrev cX3_mirroredY : ByteArray := prog_5_method_6_code
def yX3_mirroredY : MethodName := ⟨RX3, "mirroredY", "(II)J"⟩
abbrev cX3_meets : ByteArray := prog_5_method_7_code
def yX3_meets : MethodName := ⟨RX3, "meets", "(JJJJ)Z"⟩
abbrev cX3_thousandth : ByteArray := prog_5_method_8_code
def yX3_thousandth : MethodName := ⟨RX3, "thousandth", "()I"⟩
abbrev cX3_canSee : ByteArray := prog_5_method_9_code
def yX3_canSee : MethodName := ⟨RX3, "canSee", "(JJJJ)Z"⟩
abbrev cX3_blockers : ByteArray := prog_5_method_10_code
def yX3_blockers : MethodName := ⟨RX3, "blockers", "(JJ)I"⟩
abbrev cX3_isOpen : ByteArray := prog_5_method_11_code
def yX3_isOpen : MethodName := ⟨RX3, "isOpen", "(JJ)Z"⟩
abbrev cX3_look : ByteArray := prog_5_method_12_code
def yX3_look : MethodName := ⟨RX3, "look", "(JJ)V"⟩
abbrev cX3_isInWay : ByteArray := prog_5_method_13_code
def yX3_isInWay : MethodName := ⟨RX3, "isInWay", "([J)Z"⟩
abbrev cX3_overlaps : ByteArray := prog_5_method_14_code
def yX3_overlaps : MethodName := ⟨RX3, "overlaps", "(JJJ)Z"⟩
def RX4 : String := "GhostPane$Grid"
def TX4 : u_T := fun k => match k with
  | 0 => ("GhostPane$Grid", "n", "I", false)
  | 1 => ("GhostPane$Grid", "sx", "I", false)
  | 2 => ("GhostPane$Grid", "sy", "I", false)
  | 3 => ("GhostPane$Grid", "m", "I", false)
  | _ => ("GhostPane$Grid", "sd", "I", false)
def tyX4 : Nat → FieldType := fun k => match k with
  | 0 => .int
  | 1 => .int
  | 2 => .int
  | 3 => .int
  | _ => .int
abbrev wsX40 : List Cond := u_ws RX4 TX4 5
theorem nmX4 : ∀ a, a < 5 → ∀ b, b < 5 → a ≠ b → (TX4 a).2.1 ≠ (TX4 b).2.1 := by decide +kernel
theorem tyX4_ok : ∀ k, k < 5 → parseFieldDescriptor (TX4 k).2.2.1 = some (tyX4 k) := by decide +kernel
abbrev cX4_init : ByteArray := prog_6_method_1_code
def yX4_init : MethodName := ⟨RX4, "<init>", "()V"⟩
abbrev cX4_clear : ByteArray := prog_6_method_2_code
def yX4_clear : MethodName := ⟨RX4, "clear", "()V"⟩
abbrev cX4_lay : ByteArray := prog_6_method_3_code
def yX4_lay : MethodName := ⟨RX4, "lay", "(IIIII)V"⟩
abbrev cX4_settings : ByteArray := prog_6_method_4_code
def yX4_settings : MethodName := ⟨RX4, "settings", "()I"⟩
abbrev cX4_canBe : ByteArray := prog_6_method_5_code
def yX4_canBe : MethodName := ⟨RX4, "canBe", "(LGhostPane$Room;)Z"⟩
abbrev cX4_endX : ByteArray := prog_6_method_6_code
def yX4_endX : MethodName := ⟨RX4, "endX", "(LGhostPane$Room;I)I"⟩
abbrev cX4_endY : ByteArray := prog_6_method_7_code
def yX4_endY : MethodName := ⟨RX4, "endY", "(LGhostPane$Room;I)I"⟩
abbrev cX4_depth : ByteArray := prog_6_method_8_code
def yX4_depth : MethodName := ⟨RX4, "depth", "(LGhostPane$Room;I)I"⟩
abbrev cX4_row : ByteArray := prog_6_method_9_code
def yX4_row : MethodName := ⟨RX4, "row", "(I)I"⟩
def RX5 : String := "GhostPane$Joints"
def TX5 : u_T := fun k => match k with
  | 0 => ("GhostPane$Joints", "found", "I", false)
  | 1 => ("GhostPane$Joints", "places", "[I", true)
  | 2 => ("GhostPane$Joints", "face", "[Z", true)
  | _ => ("GhostPane$Joints", "banned", "[Z", true)
def tyX5 : Nat → FieldType := fun k => match k with
  | 0 => .int
  | 1 => .array .int
  | 2 => .array .boolean
  | _ => .array .boolean
abbrev wsX50 : List Cond := u_ws RX5 TX5 4
theorem nmX5 : ∀ a, a < 4 → ∀ b, b < 4 → a ≠ b → (TX5 a).2.1 ≠ (TX5 b).2.1 := by decide +kernel
theorem tyX5_ok : ∀ k, k < 4 → parseFieldDescriptor (TX5 k).2.2.1 = some (tyX5 k) := by decide +kernel
abbrev cX5_init : ByteArray := prog_7_method_1_code
def yX5_init : MethodName := ⟨RX5, "<init>", "()V"⟩
abbrev cX5_clearFaces : ByteArray := prog_7_method_2_code
def yX5_clearFaces : MethodName := ⟨RX5, "clearFaces", "()V"⟩
abbrev cX5_mark : ByteArray := prog_7_method_3_code
def yX5_mark : MethodName := ⟨RX5, "mark", "(I)V"⟩
abbrev cX5_banNear : ByteArray := prog_7_method_4_code
def yX5_banNear : MethodName := ⟨RX5, "banNear", "(I)V"⟩
abbrev cX5_find : ByteArray := prog_7_method_5_code
def yX5_find : MethodName := ⟨RX5, "find", "(I)Z"⟩
abbrev cX5_stepsOf : ByteArray := prog_7_method_6_code
def yX5_stepsOf : MethodName := ⟨RX5, "stepsOf", "(I)I"⟩
abbrev cX5_farthest : ByteArray := prog_7_method_7_code
def yX5_farthest : MethodName := ⟨RX5, "farthest", "(II)I"⟩
def RX6 : String := "GhostPane$Parser"
def TX6 : u_T := fun k => match k with
  | 0 => ("GhostPane$Parser", "code", "LGhostPane$Code;", true)
  | 1 => ("GhostPane$Parser", "tape", "LGhostPane$Tape;", true)
  | 2 => ("GhostPane$Parser", "open", "[LGhostPane$Body;", true)
  | 3 => ("GhostPane$Parser", "figures", "[LGhostPane$Body;", true)
  | 4 => ("GhostPane$Parser", "depth", "I", false)
  | _ => ("GhostPane$Parser", "told", "I", false)
def tyX6 : Nat → FieldType := fun k => match k with
  | 0 => .object "GhostPane$Code"
  | 1 => .object "GhostPane$Tape"
  | 2 => .array (.object "GhostPane$Body")
  | 3 => .array (.object "GhostPane$Body")
  | 4 => .int
  | _ => .int
abbrev wsX60 : List Cond := u_ws RX6 TX6 6
theorem nmX6 : ∀ a, a < 6 → ∀ b, b < 6 → a ≠ b → (TX6 a).2.1 ≠ (TX6 b).2.1 := by decide +kernel
theorem tyX6_ok : ∀ k, k < 6 → parseFieldDescriptor (TX6 k).2.2.1 = some (tyX6 k) := by decide +kernel
abbrev cX6_init : ByteArray := prog_8_method_1_code
def yX6_init : MethodName := ⟨RX6, "<init>", "(LGhostPane$Tape;)V"⟩
abbrev cX6_parse : ByteArray := prog_8_method_2_code
def yX6_parse : MethodName := ⟨RX6, "parse", "()V"⟩
abbrev cX6_hasMore : ByteArray := prog_8_method_3_code
def yX6_hasMore : MethodName := ⟨RX6, "hasMore", "()Z"⟩
abbrev cX6_tell : ByteArray := prog_8_method_4_code
def yX6_tell : MethodName := ⟨RX6, "tell", "()V"⟩
abbrev cX6_tellPut : ByteArray := prog_8_method_5_code
def yX6_tellPut : MethodName := ⟨RX6, "tellPut", "(II)V"⟩
abbrev cX6_put : ByteArray := prog_8_method_6_code
def yX6_put : MethodName := ⟨RX6, "put", "(II)V"⟩
abbrev cX6_tellCounts : ByteArray := prog_8_method_7_code
def yX6_tellCounts : MethodName := ⟨RX6, "tellCounts", "(III)V"⟩
abbrev cX6_tellGo : ByteArray := prog_8_method_8_code
def yX6_tellGo : MethodName := ⟨RX6, "tellGo", "()V"⟩
abbrev cX6_tellRise : ByteArray := prog_8_method_9_code
def yX6_tellRise : MethodName := ⟨RX6, "tellRise", "()V"⟩
abbrev cX6_tellLight : ByteArray := prog_8_method_10_code
def yX6_tellLight : MethodName := ⟨RX6, "tellLight", "()V"⟩
abbrev cX6_tellDo : ByteArray := prog_8_method_11_code
def yX6_tellDo : MethodName := ⟨RX6, "tellDo", "()V"⟩
abbrev cX6_figureNamed : ByteArray := prog_8_method_12_code
def yX6_figureNamed : MethodName := ⟨RX6, "figureNamed", "()I"⟩
abbrev cX6_tellRepeat : ByteArray := prog_8_method_13_code
def yX6_tellRepeat : MethodName := ⟨RX6, "tellRepeat", "()V"⟩
abbrev cX6_tellFigure : ByteArray := prog_8_method_14_code
def yX6_tellFigure : MethodName := ⟨RX6, "tellFigure", "()V"⟩
abbrev cX6_tellOpen : ByteArray := prog_8_method_15_code
def yX6_tellOpen : MethodName := ⟨RX6, "tellOpen", "(II)V"⟩
abbrev cX6_close : ByteArray := prog_8_method_16_code
def yX6_close : MethodName := ⟨RX6, "close", "()V"⟩
abbrev cX6_closeRepeat : ByteArray := prog_8_method_17_code
def yX6_closeRepeat : MethodName := ⟨RX6, "closeRepeat", "(LGhostPane$Body;)V"⟩
abbrev cX6_closeFigure : ByteArray := prog_8_method_18_code
def yX6_closeFigure : MethodName := ⟨RX6, "closeFigure", "(LGhostPane$Body;)V"⟩
def RX7 : String := "GhostPane$Room"
def TX7 : u_T := fun k => match k with
  | 0 => ("GhostPane$Room", "ax", "I", false)
  | 1 => ("GhostPane$Room", "ay", "I", false)
  | 2 => ("GhostPane$Room", "bx", "I", false)
  | 3 => ("GhostPane$Room", "by", "I", false)
  | 4 => ("GhostPane$Room", "cx", "I", false)
  | 5 => ("GhostPane$Room", "cy", "I", false)
  | 6 => ("GhostPane$Room", "dx", "I", false)
  | 7 => ("GhostPane$Room", "dy", "I", false)
  | 8 => ("GhostPane$Room", "floor", "I", false)
  | 9 => ("GhostPane$Room", "hand", "I", false)
  | 10 => ("GhostPane$Room", "deep", "I", false)
  | 11 => ("GhostPane$Room", "seatThere", "[Z", true)
  | 12 => ("GhostPane$Room", "eyeX", "[I", true)
  | 13 => ("GhostPane$Room", "eyeY", "[I", true)
  | 14 => ("GhostPane$Room", "wallThere", "[Z", true)
  | 15 => ("GhostPane$Room", "wallEnds", "[[I", true)
  | 16 => ("GhostPane$Room", "ofPit", "[Z", true)
  | 17 => ("GhostPane$Room", "thingThere", "[Z", true)
  | _ => ("GhostPane$Room", "boxes", "[[I", true)
def tyX7 : Nat → FieldType := fun k => match k with
  | 0 => .int
  | 1 => .int
  | 2 => .int
  | 3 => .int
  | 4 => .int
  | 5 => .int
  | 6 => .int
  | 7 => .int
  | 8 => .int
  | 9 => .int
  | 10 => .int
  | 11 => .array .boolean
  | 12 => .array .int
  | 13 => .array .int
  | 14 => .array .boolean
  | 15 => .array (.array .int)
  | 16 => .array .boolean
  | 17 => .array .boolean
  | _ => .array (.array .int)
abbrev wsX70 : List Cond := u_ws RX7 TX7 19
theorem nmX7 : ∀ a, a < 19 → ∀ b, b < 19 → a ≠ b → (TX7 a).2.1 ≠ (TX7 b).2.1 := by decide +kernel
theorem tyX7_ok : ∀ k, k < 19 → parseFieldDescriptor (TX7 k).2.2.1 = some (tyX7 k) := by decide +kernel
abbrev cX7_init : ByteArray := prog_9_method_1_code
def yX7_init : MethodName := ⟨RX7, "<init>", "()V"⟩
abbrev cX7_hasSeat : ByteArray := prog_9_method_2_code
def yX7_hasSeat : MethodName := ⟨RX7, "hasSeat", "(I)Z"⟩
abbrev cX7_hasWall : ByteArray := prog_9_method_3_code
def yX7_hasWall : MethodName := ⟨RX7, "hasWall", "(I)Z"⟩
def RX8 : String := "GhostPane$Show"
def TX8 : u_T := fun k => match k with
  | 0 => ("GhostPane$Show", "glass", "LGhostPane$Glass;", true)
  | 1 => ("GhostPane$Show", "feetX", "I", false)
  | 2 => ("GhostPane$Show", "feetY", "I", false)
  | 3 => ("GhostPane$Show", "groundY", "I", false)
  | 4 => ("GhostPane$Show", "room", "LGhostPane$Room;", true)
  | _ => ("GhostPane$Show", "walk", "LGhostPane$Walk;", true)
def tyX8 : Nat → FieldType := fun k => match k with
  | 0 => .object "GhostPane$Glass"
  | 1 => .int
  | 2 => .int
  | 3 => .int
  | 4 => .object "GhostPane$Room"
  | _ => .object "GhostPane$Walk"
abbrev wsX80 : List Cond := u_ws RX8 TX8 6
theorem nmX8 : ∀ a, a < 6 → ∀ b, b < 6 → a ≠ b → (TX8 a).2.1 ≠ (TX8 b).2.1 := by decide +kernel
theorem tyX8_ok : ∀ k, k < 6 → parseFieldDescriptor (TX8 k).2.2.1 = some (tyX8 k) := by decide +kernel
abbrev cX8_init : ByteArray := prog_10_method_1_code
def yX8_init : MethodName := ⟨RX8, "<init>", "(LGhostPane$Room;LGhostPane$Walk;)V"⟩
abbrev cX8_layOwn : ByteArray := prog_10_method_2_code
def yX8_layOwn : MethodName := ⟨RX8, "layOwn", "()V"⟩
abbrev cX8_laySetting : ByteArray := prog_10_method_3_code
def yX8_laySetting : MethodName := ⟨RX8, "laySetting", "(LGhostPane$Grid;I)V"⟩
abbrev cX8_eyeSees : ByteArray := prog_10_method_4_code
def yX8_eyeSees : MethodName := ⟨RX8, "eyeSees", "(IJJ)Z"⟩
abbrev cX8_wallShows : ByteArray := prog_10_method_5_code
def yX8_wallShows : MethodName := ⟨RX8, "wallShows", "(II)Z"⟩
abbrev cX8_wallShowsToSome : ByteArray := prog_10_method_6_code
def yX8_wallShowsToSome : MethodName := ⟨RX8, "wallShowsToSome", "(I)Z"⟩
abbrev cX8_standAt : ByteArray := prog_10_method_7_code
def yX8_standAt : MethodName := ⟨RX8, "standAt", "(I)V"⟩
abbrev cX8_isHeld : ByteArray := prog_10_method_8_code
def yX8_isHeld : MethodName := ⟨RX8, "isHeld", "()Z"⟩
abbrev cX8_clashes : ByteArray := prog_10_method_9_code
def yX8_clashes : MethodName := ⟨RX8, "clashes", "()I"⟩
abbrev cX8_isInside : ByteArray := prog_10_method_10_code
def yX8_isInside : MethodName := ⟨RX8, "isInside", "([IJJ)Z"⟩
abbrev cX8_isGood : ByteArray := prog_10_method_11_code
def yX8_isGood : MethodName := ⟨RX8, "isGood", "(I)Z"⟩
abbrev cX8_seesGhost : ByteArray := prog_10_method_12_code
def yX8_seesGhost : MethodName := ⟨RX8, "seesGhost", "(I)Z"⟩
abbrev cX8_seesFace : ByteArray := prog_10_method_13_code
def yX8_seesFace : MethodName := ⟨RX8, "seesFace", "(I)Z"⟩
abbrev cX8_wouldSeeFace : ByteArray := prog_10_method_14_code
def yX8_wouldSeeFace : MethodName := ⟨RX8, "wouldSeeFace", "(II)Z"⟩
abbrev cX8_countsOf : ByteArray := prog_10_method_15_code
def yX8_countsOf : MethodName := ⟨RX8, "countsOf", "(I)I"⟩
abbrev cX8_countsOfAll : ByteArray := prog_10_method_16_code
def yX8_countsOfAll : MethodName := ⟨RX8, "countsOfAll", "()I"⟩
abbrev cX8_seatsSeeing : ByteArray := prog_10_method_17_code
def yX8_seatsSeeing : MethodName := ⟨RX8, "seatsSeeing", "()I"⟩
abbrev cX8_markFaces : ByteArray := prog_10_method_18_code
def yX8_markFaces : MethodName := ⟨RX8, "markFaces", "(LGhostPane$Joints;)V"⟩
abbrev cX8_markFacesHere : ByteArray := prog_10_method_19_code
def yX8_markFacesHere : MethodName := ⟨RX8, "markFacesHere", "(LGhostPane$Joints;)V"⟩
def RX9 : String := "GhostPane$Tape"
def TX9 : u_T := fun k => match k with
  | 0 => ("GhostPane$Tape", "length", "I", false)
  | 1 => ("GhostPane$Tape", "fault", "I", false)
  | 2 => ("GhostPane$Tape", "faultPlace", "I", false)
  | 3 => ("GhostPane$Tape", "wordFrom", "I", false)
  | 4 => ("GhostPane$Tape", "wordTo", "I", false)
  | 5 => ("GhostPane$Tape", "at", "I", false)
  | _ => ("GhostPane$Tape", "bytes", "[B", true)
def tyX9 : Nat → FieldType := fun k => match k with
  | 0 => .int
  | 1 => .int
  | 2 => .int
  | 3 => .int
  | 4 => .int
  | 5 => .int
  | _ => .array .byte
abbrev wsX90 : List Cond := u_ws RX9 TX9 7
theorem nmX9 : ∀ a, a < 7 → ∀ b, b < 7 → a ≠ b → (TX9 a).2.1 ≠ (TX9 b).2.1 := by decide +kernel
theorem tyX9_ok : ∀ k, k < 7 → parseFieldDescriptor (TX9 k).2.2.1 = some (tyX9 k) := by decide +kernel
abbrev cX9_init : ByteArray := prog_11_method_1_code
def yX9_init : MethodName := ⟨RX9, "<init>", "()V"⟩
abbrev cX9_hasRoom : ByteArray := prog_11_method_2_code
def yX9_hasRoom : MethodName := ⟨RX9, "hasRoom", "()Z"⟩
abbrev cX9_append : ByteArray := prog_11_method_3_code
def yX9_append : MethodName := ⟨RX9, "append", "(I)V"⟩
abbrev cX9_rewind : ByteArray := prog_11_method_4_code
def yX9_rewind : MethodName := ⟨RX9, "rewind", "()V"⟩
abbrev cX9_fail : ByteArray := prog_11_method_5_code
def yX9_fail : MethodName := ⟨RX9, "fail", "(II)V"⟩
abbrev cX9_isRead : ByteArray := prog_11_method_6_code
def yX9_isRead : MethodName := ⟨RX9, "isRead", "()Z"⟩
abbrev cX9_place : ByteArray := prog_11_method_7_code
def yX9_place : MethodName := ⟨RX9, "place", "()I"⟩
abbrev cX9_skipBlanks : ByteArray := prog_11_method_8_code
def yX9_skipBlanks : MethodName := ⟨RX9, "skipBlanks", "()V"⟩
abbrev cX9_skipGap : ByteArray := prog_11_method_9_code
def yX9_skipGap : MethodName := ⟨RX9, "skipGap", "()V"⟩
abbrev cX9_takesSign : ByteArray := prog_11_method_10_code
def yX9_takesSign : MethodName := ⟨RX9, "takesSign", "(C)Z"⟩
abbrev cX9_needSign : ByteArray := prog_11_method_11_code
def yX9_needSign : MethodName := ⟨RX9, "needSign", "(C)V"⟩
abbrev cX9_readWord : ByteArray := prog_11_method_12_code
def yX9_readWord : MethodName := ⟨RX9, "readWord", "()V"⟩
abbrev cX9_isWord : ByteArray := prog_11_method_13_code
def yX9_isWord : MethodName := ⟨RX9, "isWord", "(Ljava/lang/String;)Z"⟩
abbrev cX9_isSameWord : ByteArray := prog_11_method_14_code
def yX9_isSameWord : MethodName := ⟨RX9, "isSameWord", "(II)Z"⟩
abbrev cX9_needWord : ByteArray := prog_11_method_15_code
def yX9_needWord : MethodName := ⟨RX9, "needWord", "(Ljava/lang/String;Ljava/lang/String;)V"⟩
abbrev cX9_needName : ByteArray := prog_11_method_16_code
def yX9_needName : MethodName := ⟨RX9, "needName", "()V"⟩
abbrev cX9_needNumber : ByteArray := prog_11_method_17_code
def yX9_needNumber : MethodName := ⟨RX9, "needNumber", "(II)I"⟩
abbrev cX9_isLetter : ByteArray := prog_11_method_18_code
def yX9_isLetter : MethodName := ⟨RX9, "isLetter", "()Z"⟩
abbrev cX9_isDigit : ByteArray := prog_11_method_19_code
def yX9_isDigit : MethodName := ⟨RX9, "isDigit", "()Z"⟩
def RX10 : String := "GhostPane$Walk"
def TX10 : u_T := fun k => match k with
  | 0 => ("GhostPane$Walk", "last", "I", false)
  | 1 => ("GhostPane$Walk", "spot", "[I", true)
  | 2 => ("GhostPane$Walk", "height", "[I", true)
  | 3 => ("GhostPane$Walk", "lit", "[Z", true)
  | 4 => ("GhostPane$Walk", "backTo", "[I", true)
  | 5 => ("GhostPane$Walk", "timesLeft", "[I", true)
  | _ => ("GhostPane$Walk", "frames", "I", false)
def tyX10 : Nat → FieldType := fun k => match k with
  | 0 => .int
  | 1 => .array .int
  | 2 => .array .int
  | 3 => .array .boolean
  | 4 => .array .int
  | 5 => .array .int
  | _ => .int
abbrev wsX100 : List Cond := u_ws RX10 TX10 7
theorem nmX10 : ∀ a, a < 7 → ∀ b, b < 7 → a ≠ b → (TX10 a).2.1 ≠ (TX10 b).2.1 := by decide +kernel
theorem tyX10_ok : ∀ k, k < 7 → parseFieldDescriptor (TX10 k).2.2.1 = some (tyX10 k) := by decide +kernel
abbrev cX10_init : ByteArray := prog_12_method_1_code
def yX10_init : MethodName := ⟨RX10, "<init>", "()V"⟩
abbrev cX10_hasCount : ByteArray := prog_12_method_2_code
def yX10_hasCount : MethodName := ⟨RX10, "hasCount", "(I)Z"⟩
abbrev cX10_isAsBefore : ByteArray := prog_12_method_3_code
def yX10_isAsBefore : MethodName := ⟨RX10, "isAsBefore", "(I)Z"⟩
abbrev cX10_perform : ByteArray := prog_12_method_4_code
def yX10_perform : MethodName := ⟨RX10, "perform", "(LGhostPane$Code;)V"⟩
abbrev cX10_follow : ByteArray := prog_12_method_5_code
def yX10_follow : MethodName := ⟨RX10, "follow", "(LGhostPane$Code;I)I"⟩
abbrev cX10_put : ByteArray := prog_12_method_6_code
def yX10_put : MethodName := ⟨RX10, "put", "(II)V"⟩
abbrev cX10_goTo : ByteArray := prog_12_method_7_code
def yX10_goTo : MethodName := ⟨RX10, "goTo", "(II)V"⟩
abbrev cX10_rise : ByteArray := prog_12_method_8_code
def yX10_rise : MethodName := ⟨RX10, "rise", "(II)V"⟩
abbrev cX10_addCount : ByteArray := prog_12_method_9_code
def yX10_addCount : MethodName := ⟨RX10, "addCount", "(II)V"⟩
abbrev cX10_enter : ByteArray := prog_12_method_10_code
def yX10_enter : MethodName := ⟨RX10, "enter", "(II)V"⟩
abbrev cX10_comeBack : ByteArray := prog_12_method_11_code
def yX10_comeBack : MethodName := ⟨RX10, "comeBack", "(I)I"⟩
def RX11 : String := "GhostPane"
def TX11 : u_T := fun k => match k with
  | 0 => ("GhostPane", "tape", "LGhostPane$Tape;", true)
  | 1 => ("GhostPane", "parser", "LGhostPane$Parser;", true)
  | 2 => ("GhostPane", "walk", "LGhostPane$Walk;", true)
  | 3 => ("GhostPane", "room", "LGhostPane$Room;", true)
  | 4 => ("GhostPane", "show", "LGhostPane$Show;", true)
  | 5 => ("GhostPane", "grid", "LGhostPane$Grid;", true)
  | 6 => ("GhostPane", "joints", "LGhostPane$Joints;", true)
  | _ => ("GhostPane", "book", "LGhostPane$Book;", true)
def tyX11 : Nat → FieldType := fun k => match k with
  | 0 => .object "GhostPane$Tape"
  | 1 => .object "GhostPane$Parser"
  | 2 => .object "GhostPane$Walk"
  | 3 => .object "GhostPane$Room"
  | 4 => .object "GhostPane$Show"
  | 5 => .object "GhostPane$Grid"
  | 6 => .object "GhostPane$Joints"
  | _ => .object "GhostPane$Book"
abbrev wsX110 : List Cond := u_ws RX11 TX11 8
theorem nmX11 : ∀ a, a < 8 → ∀ b, b < 8 → a ≠ b → (TX11 a).2.1 ≠ (TX11 b).2.1 := by decide +kernel
theorem tyX11_ok : ∀ k, k < 8 → parseFieldDescriptor (TX11 k).2.2.1 = some (tyX11 k) := by decide +kernel
abbrev cX11_init : ByteArray := prog_1_method_1_code
def yX11_init : MethodName := ⟨RX11, "<init>", "()V"⟩
abbrev cX11_feed : ByteArray := prog_1_method_2_code
def yX11_feed : MethodName := ⟨RX11, "feed", "(IIIII)I"⟩
abbrev cX11_end : ByteArray := prog_1_method_3_code
def yX11_end : MethodName := ⟨RX11, "end", "(I)Z"⟩
abbrev cX11_pane : ByteArray := prog_1_method_4_code
def yX11_pane : MethodName := ⟨RX11, "pane", "(IIII)Z"⟩
abbrev cX11_board : ByteArray := prog_1_method_5_code
def yX11_board : MethodName := ⟨RX11, "board", "(IIII)Z"⟩
abbrev cX11_heights : ByteArray := prog_1_method_6_code
def yX11_heights : MethodName := ⟨RX11, "heights", "(III)Z"⟩
abbrev cX11_seat : ByteArray := prog_1_method_7_code
def yX11_seat : MethodName := ⟨RX11, "seat", "(III)Z"⟩
abbrev cX11_wall : ByteArray := prog_1_method_8_code
def yX11_wall : MethodName := ⟨RX11, "wall", "(IIIIIZ)Z"⟩
abbrev cX11_thing : ByteArray := prog_1_method_9_code
def yX11_thing : MethodName := ⟨RX11, "thing", "(IIIII)Z"⟩
abbrev cX11_gone : ByteArray := prog_1_method_10_code
def yX11_gone : MethodName := ⟨RX11, "gone", "(II)Z"⟩
abbrev cX11_of : ByteArray := prog_1_method_11_code
def yX11_of : MethodName := ⟨RX11, "of", "(III)J"⟩
abbrev cX11_sees : ByteArray := prog_1_method_12_code
def yX11_sees : MethodName := ⟨RX11, "sees", "(III)I"⟩
abbrev cX11_where : ByteArray := prog_1_method_13_code
def yX11_where : MethodName := ⟨RX11, "where", "(III)I"⟩
abbrev cX11_blocks : ByteArray := prog_1_method_14_code
def yX11_blocks : MethodName := ⟨RX11, "blocks", "(IIII)I"⟩
abbrev cX11_shows : ByteArray := prog_1_method_15_code
def yX11_shows : MethodName := ⟨RX11, "shows", "(II)I"⟩
abbrev cX11_black : ByteArray := prog_1_method_16_code
def yX11_black : MethodName := ⟨RX11, "black", "()I"⟩
abbrev cX11_walk : ByteArray := prog_1_method_17_code
def yX11_walk : MethodName := ⟨RX11, "walk", "()I"⟩
abbrev cX11_fault : ByteArray := prog_1_method_18_code
def yX11_fault : MethodName := ⟨RX11, "fault", "(I)I"⟩
abbrev cX11_count : ByteArray := prog_1_method_19_code
def yX11_count : MethodName := ⟨RX11, "count", "(II)I"⟩
abbrev cX11_has : ByteArray := prog_1_method_20_code
def yX11_has : MethodName := ⟨RX11, "has", "(II)I"⟩
abbrev cX11_counts : ByteArray := prog_1_method_21_code
def yX11_counts : MethodName := ⟨RX11, "counts", "(I)I"⟩
abbrev cX11_house : ByteArray := prog_1_method_22_code
def yX11_house : MethodName := ⟨RX11, "house", "()I"⟩
abbrev cX11_grid : ByteArray := prog_1_method_23_code
def yX11_grid : MethodName := ⟨RX11, "grid", "(IIIII)I"⟩
abbrev cX11_tried : ByteArray := prog_1_method_24_code
def yX11_tried : MethodName := ⟨RX11, "tried", "(I)I"⟩
abbrev cX11_best : ByteArray := prog_1_method_25_code
def yX11_best : MethodName := ⟨RX11, "best", "()I"⟩
abbrev cX11_take : ByteArray := prog_1_method_26_code
def yX11_take : MethodName := ⟨RX11, "take", "(I)Z"⟩
abbrev cX11_joins : ByteArray := prog_1_method_27_code
def yX11_joins : MethodName := ⟨RX11, "joins", "(II)I"⟩
abbrev cX11_join : ByteArray := prog_1_method_28_code
def yX11_join : MethodName := ⟨RX11, "join", "(I)I"⟩
abbrev cX11_report : ByteArray := prog_1_method_29_code
def yX11_report : MethodName := ⟨RX11, "report", "(IIZ)I"⟩
abbrev cX11_void_ : ByteArray := prog_1_method_30_code
def yX11_void_ : MethodName := ⟨RX11, "void_", "(I)I"⟩
abbrev cX11_quarrels : ByteArray := prog_1_method_31_code
def yX11_quarrels : MethodName := ⟨RX11, "quarrels", "(II)I"⟩
abbrev cX11_likely : ByteArray := prog_1_method_32_code
def yX11_likely : MethodName := ⟨RX11, "likely", "(I)I"⟩
abbrev cX11_since : ByteArray := prog_1_method_33_code
def yX11_since : MethodName := ⟨RX11, "since", "()I"⟩
abbrev cX11_all : ByteArray := prog_1_method_34_code
def yX11_all : MethodName := ⟨RX11, "all", "(I)I"⟩
abbrev cX11_meetsPane : ByteArray := prog_1_method_35_code
def yX11_meetsPane : MethodName := ⟨RX11, "meetsPane", "(III)Z"⟩
abbrev cX11_canTry : ByteArray := prog_1_method_36_code
def yX11_canTry : MethodName := ⟨RX11, "canTry", "(I)Z"⟩
abbrev cX11_takeAway : ByteArray := prog_1_method_37_code
def yX11_takeAway : MethodName := ⟨RX11, "takeAway", "([ZI)Z"⟩
abbrev cX11_howMany : ByteArray := prog_1_method_38_code
def yX11_howMany : MethodName := ⟨RX11, "howMany", "([Z)I"⟩
abbrev cX11_bit : ByteArray := prog_1_method_39_code
def yX11_bit : MethodName := ⟨RX11, "bit", "(Z)I"⟩
abbrev cX11_within : ByteArray := prog_1_method_40_code
def yX11_within : MethodName := ⟨RX11, "within", "(III)Z"⟩
abbrev cX11_isPlace : ByteArray := prog_1_method_41_code
def yX11_isPlace : MethodName := ⟨RX11, "isPlace", "(II)Z"⟩
abbrev cX11_isFarPlace : ByteArray := prog_1_method_42_code
def yX11_isFarPlace : MethodName := ⟨RX11, "isFarPlace", "(II)Z"⟩
abbrev cX11_isStretch : ByteArray := prog_1_method_43_code
def yX11_isStretch : MethodName := ⟨RX11, "isStretch", "(IIII)Z"⟩
def RX12 : String := "GhostPaneModel"
def TX12 : u_T := fun k => match k with
  | 0 => ("GhostPaneModel", "ax", "I", false)
  | 1 => ("GhostPaneModel", "ay", "I", false)
  | 2 => ("GhostPaneModel", "bx", "I", false)
  | 3 => ("GhostPaneModel", "by", "I", false)
  | 4 => ("GhostPaneModel", "cx", "I", false)
  | 5 => ("GhostPaneModel", "cy", "I", false)
  | 6 => ("GhostPaneModel", "dx", "I", false)
  | 7 => ("GhostPaneModel", "dy", "I", false)
  | 8 => ("GhostPaneModel", "floor", "I", false)
  | 9 => ("GhostPaneModel", "hand", "I", false)
  | 10 => ("GhostPaneModel", "deep", "I", false)
  | 11 => ("GhostPaneModel", "isSeat", "[Z", true)
  | 12 => ("GhostPaneModel", "seatX", "[I", true)
  | 13 => ("GhostPaneModel", "seatY", "[I", true)
  | 14 => ("GhostPaneModel", "isWall", "[Z", true)
  | 15 => ("GhostPaneModel", "wallAx", "[I", true)
  | 16 => ("GhostPaneModel", "wallAy", "[I", true)
  | 17 => ("GhostPaneModel", "wallBx", "[I", true)
  | 18 => ("GhostPaneModel", "wallBy", "[I", true)
  | 19 => ("GhostPaneModel", "isPit", "[Z", true)
  | 20 => ("GhostPaneModel", "isThing", "[Z", true)
  | 21 => ("GhostPaneModel", "fromX", "[I", true)
  | 22 => ("GhostPaneModel", "toX", "[I", true)
  | 23 => ("GhostPaneModel", "fromY", "[I", true)
  | 24 => ("GhostPaneModel", "toY", "[I", true)
  | 25 => ("GhostPaneModel", "eyeX", "J", false)
  | 26 => ("GhostPaneModel", "eyeY", "J", false)
  | 27 => ("GhostPaneModel", "goalX", "J", false)
  | 28 => ("GhostPaneModel", "goalY", "J", false)
  | 29 => ("GhostPaneModel", "meetX", "J", false)
  | 30 => ("GhostPaneModel", "meetY", "J", false)
  | 31 => ("GhostPaneModel", "meetBy", "J", false)
  | 32 => ("GhostPaneModel", "meetAlong", "J", false)
  | 33 => ("GhostPaneModel", "tape", "[I", true)
  | 34 => ("GhostPaneModel", "taped", "I", false)
  | 35 => ("GhostPaneModel", "at", "I", false)
  | 36 => ("GhostPaneModel", "size", "I", false)
  | 37 => ("GhostPaneModel", "ended", "I", false)
  | 38 => ("GhostPaneModel", "bad", "I", false)
  | 39 => ("GhostPaneModel", "badPlace", "I", false)
  | 40 => ("GhostPaneModel", "fault", "I", false)
  | 41 => ("GhostPaneModel", "faultPlace", "I", false)
  | 42 => ("GhostPaneModel", "namePlace", "I", false)
  | 43 => ("GhostPaneModel", "atWord", "[C", true)
  | 44 => ("GhostPaneModel", "goWord", "[C", true)
  | 45 => ("GhostPaneModel", "toWord", "[C", true)
  | 46 => ("GhostPaneModel", "inWord", "[C", true)
  | 47 => ("GhostPaneModel", "stayWord", "[C", true)
  | 48 => ("GhostPaneModel", "riseWord", "[C", true)
  | 49 => ("GhostPaneModel", "lightWord", "[C", true)
  | 50 => ("GhostPaneModel", "onWord", "[C", true)
  | 51 => ("GhostPaneModel", "offWord", "[C", true)
  | 52 => ("GhostPaneModel", "repeatWord", "[C", true)
  | 53 => ("GhostPaneModel", "figureWord", "[C", true)
  | 54 => ("GhostPaneModel", "doWord", "[C", true)
  | 55 => ("GhostPaneModel", "codes", "I", false)
  | 56 => ("GhostPaneModel", "code", "[I", true)
  | 57 => ("GhostPaneModel", "first", "[I", true)
  | 58 => ("GhostPaneModel", "second", "[I", true)
  | 59 => ("GhostPaneModel", "endOf", "[I", true)
  | 60 => ("GhostPaneModel", "countsOf", "[I", true)
  | 61 => ("GhostPaneModel", "atOf", "[I", true)
  | 62 => ("GhostPaneModel", "lightOf", "[I", true)
  | 63 => ("GhostPaneModel", "figures", "I", false)
  | 64 => ("GhostPaneModel", "figureName", "[J", true)
  | 65 => ("GhostPaneModel", "figureCode", "[I", true)
  | 66 => ("GhostPaneModel", "open", "I", false)
  | 67 => ("GhostPaneModel", "openCode", "[I", true)
  | 68 => ("GhostPaneModel", "openCounts", "[I", true)
  | 69 => ("GhostPaneModel", "openAt", "[I", true)
  | 70 => ("GhostPaneModel", "openLight", "[I", true)
  | 71 => ("GhostPaneModel", "openName", "[J", true)
  | 72 => ("GhostPaneModel", "last", "I", false)
  | 73 => ("GhostPaneModel", "place", "[I", true)
  | 74 => ("GhostPaneModel", "height", "[I", true)
  | 75 => ("GhostPaneModel", "light", "[I", true)
  | 76 => ("GhostPaneModel", "now", "I", false)
  | 77 => ("GhostPaneModel", "from", "I", false)
  | 78 => ("GhostPaneModel", "pileStart", "[I", true)
  | 79 => ("GhostPaneModel", "pileEnd", "[I", true)
  | 80 => ("GhostPaneModel", "pileLeft", "[I", true)
  | 81 => ("GhostPaneModel", "pileAfter", "[I", true)
  | 82 => ("GhostPaneModel", "piled", "I", false)
  | 83 => ("GhostPaneModel", "hasGrid", "Z", false)
  | 84 => ("GhostPaneModel", "gridN", "I", false)
  | 85 => ("GhostPaneModel", "gridM", "I", false)
  | 86 => ("GhostPaneModel", "gridX", "I", false)
  | 87 => ("GhostPaneModel", "gridY", "I", false)
  | 88 => ("GhostPaneModel", "gridDeep", "I", false)
  | 89 => ("GhostPaneModel", "ownX", "I", false)
  | 90 => ("GhostPaneModel", "ownY", "I", false)
  | 91 => ("GhostPaneModel", "ownDeep", "I", false)
  | 92 => ("GhostPaneModel", "joinMany", "I", false)
  | 93 => ("GhostPaneModel", "joinAt", "[I", true)
  | 94 => ("GhostPaneModel", "isSeen", "[Z", true)
  | 95 => ("GhostPaneModel", "newJoin", "[I", true)
  | 96 => ("GhostPaneModel", "acts", "I", false)
  | 97 => ("GhostPaneModel", "actSeat", "[I", true)
  | 98 => ("GhostPaneModel", "actCount", "[I", true)
  | 99 => ("GhostPaneModel", "actSaw", "[I", true)
  | 100 => ("GhostPaneModel", "voidAt", "[I", true)
  | 101 => ("GhostPaneModel", "quarrel", "[I", true)
  | 102 => ("GhostPaneModel", "fewest", "[I", true)
  | _ => ("GhostPaneModel", "likely", "[I", true)
def tyX12 : Nat → FieldType := fun k => match k with
  | 0 => .int
  | 1 => .int
  | 2 => .int
  | 3 => .int
  | 4 => .int
  | 5 => .int
  | 6 => .int
  | 7 => .int
  | 8 => .int
  | 9 => .int
  | 10 => .int
  | 11 => .array .boolean
  | 12 => .array .int
  | 13 => .array .int
  | 14 => .array .boolean
  | 15 => .array .int
  | 16 => .array .int
  | 17 => .array .int
  | 18 => .array .int
  | 19 => .array .boolean
  | 20 => .array .boolean
  | 21 => .array .int
  | 22 => .array .int
  | 23 => .array .int
  | 24 => .array .int
  | 25 => .long
  | 26 => .long
  | 27 => .long
  | 28 => .long
  | 29 => .long
  | 30 => .long
  | 31 => .long
  | 32 => .long
  | 33 => .array .int
  | 34 => .int
  | 35 => .int
  | 36 => .int
  | 37 => .int
  | 38 => .int
  | 39 => .int
  | 40 => .int
  | 41 => .int
  | 42 => .int
  | 43 => .array .char
  | 44 => .array .char
  | 45 => .array .char
  | 46 => .array .char
  | 47 => .array .char
  | 48 => .array .char
  | 49 => .array .char
  | 50 => .array .char
  | 51 => .array .char
  | 52 => .array .char
  | 53 => .array .char
  | 54 => .array .char
  | 55 => .int
  | 56 => .array .int
  | 57 => .array .int
  | 58 => .array .int
  | 59 => .array .int
  | 60 => .array .int
  | 61 => .array .int
  | 62 => .array .int
  | 63 => .int
  | 64 => .array .long
  | 65 => .array .int
  | 66 => .int
  | 67 => .array .int
  | 68 => .array .int
  | 69 => .array .int
  | 70 => .array .int
  | 71 => .array .long
  | 72 => .int
  | 73 => .array .int
  | 74 => .array .int
  | 75 => .array .int
  | 76 => .int
  | 77 => .int
  | 78 => .array .int
  | 79 => .array .int
  | 80 => .array .int
  | 81 => .array .int
  | 82 => .int
  | 83 => .boolean
  | 84 => .int
  | 85 => .int
  | 86 => .int
  | 87 => .int
  | 88 => .int
  | 89 => .int
  | 90 => .int
  | 91 => .int
  | 92 => .int
  | 93 => .array .int
  | 94 => .array .boolean
  | 95 => .array .int
  | 96 => .int
  | 97 => .array .int
  | 98 => .array .int
  | 99 => .array .int
  | 100 => .array .int
  | 101 => .array .int
  | 102 => .array .int
  | _ => .array .int
abbrev wsX120 : List Cond := u_ws RX12 TX12 104
theorem nmX12 : ∀ a, a < 104 → ∀ b, b < 104 → a ≠ b → (TX12 a).2.1 ≠ (TX12 b).2.1 := by decide +kernel
theorem tyX12_ok : ∀ k, k < 104 → parseFieldDescriptor (TX12 k).2.2.1 = some (tyX12 k) := by decide +kernel
abbrev cX12_isIn : ByteArray := prog_14_method_1_code
def yX12_isIn : MethodName := ⟨RX12, "isIn", "(III)Z"⟩
abbrev cX12_isPlace : ByteArray := prog_14_method_2_code
def yX12_isPlace : MethodName := ⟨RX12, "isPlace", "(II)Z"⟩
abbrev cX12_areTwo : ByteArray := prog_14_method_3_code
def yX12_areTwo : MethodName := ⟨RX12, "areTwo", "(IIII)Z"⟩
abbrev cX12_pane : ByteArray := prog_14_method_4_code
def yX12_pane : MethodName := ⟨RX12, "pane", "(IIII)Z"⟩
abbrev cX12_board : ByteArray := prog_14_method_5_code
def yX12_board : MethodName := ⟨RX12, "board", "(IIII)Z"⟩
abbrev cX12_heights : ByteArray := prog_14_method_6_code
def yX12_heights : MethodName := ⟨RX12, "heights", "(III)Z"⟩
abbrev cX12_seat : ByteArray := prog_14_method_7_code
def yX12_seat : MethodName := ⟨RX12, "seat", "(III)Z"⟩
abbrev cX12_wall : ByteArray := prog_14_method_8_code
def yX12_wall : MethodName := ⟨RX12, "wall", "(IIIIIZ)Z"⟩
abbrev cX12_thing : ByteArray := prog_14_method_9_code
def yX12_thing : MethodName := ⟨RX12, "thing", "(IIIII)Z"⟩
abbrev cX12_isThe : ByteArray := prog_14_method_10_code
def yX12_isThe : MethodName := ⟨RX12, "isThe", "(I)Z"⟩
abbrev cX12_hasWall : ByteArray := prog_14_method_11_code
def yX12_hasWall : MethodName := ⟨RX12, "hasWall", "(I)Z"⟩
abbrev cX12_gone : ByteArray := prog_14_method_12_code
def yX12_gone : MethodName := ⟨RX12, "gone", "(II)Z"⟩
abbrev cX12_along : ByteArray := prog_14_method_13_code
def yX12_along : MethodName := ⟨RX12, "along", "(JJ)J"⟩
abbrev cX12_off : ByteArray := prog_14_method_14_code
def yX12_off : MethodName := ⟨RX12, "off", "(JJ)J"⟩
abbrev cX12_length : ByteArray := prog_14_method_15_code
def yX12_length : MethodName := ⟨RX12, "length", "()J"⟩
abbrev cX12_isWide : ByteArray := prog_14_method_16_code
def yX12_isWide : MethodName := ⟨RX12, "isWide", "(II)Z"⟩
abbrev cX12_mirroredX : ByteArray := prog_14_method_17_code
def yX12_mirroredX : MethodName := ⟨RX12, "mirroredX", "(JJ)J"⟩
abbrev cX12_mirroredY : ByteArray := prog_14_method_18_code
def yX12_mirroredY : MethodName := ⟨RX12, "mirroredY", "(JJ)J"⟩
abbrev cX12_of : ByteArray := prog_14_method_19_code
def yX12_of : MethodName := ⟨RX12, "of", "(III)J"⟩
abbrev cX12_meets : ByteArray := prog_14_method_20_code
def yX12_meets : MethodName := ⟨RX12, "meets", "(IJJ)Z"⟩
abbrev cX12_sign : ByteArray := prog_14_method_21_code
def yX12_sign : MethodName := ⟨RX12, "sign", "(J)I"⟩
abbrev cX12_wallY : ByteArray := prog_14_method_22_code
def yX12_wallY : MethodName := ⟨RX12, "wallY", "(IZ)J"⟩
abbrev cX12_less : ByteArray := prog_14_method_23_code
def yX12_less : MethodName := ⟨RX12, "less", "(JJ)J"⟩
abbrev cX12_more : ByteArray := prog_14_method_24_code
def yX12_more : MethodName := ⟨RX12, "more", "(JJ)J"⟩
abbrev cX12_stops : ByteArray := prog_14_method_25_code
def yX12_stops : MethodName := ⟨RX12, "stops", "(IJJ)Z"⟩
abbrev cX12_stopping : ByteArray := prog_14_method_26_code
def yX12_stopping : MethodName := ⟨RX12, "stopping", "(JJ)I"⟩
abbrev cX12_seesIt : ByteArray := prog_14_method_27_code
def yX12_seesIt : MethodName := ⟨RX12, "seesIt", "(IJJ)Z"⟩
abbrev cX12_sees : ByteArray := prog_14_method_28_code
def yX12_sees : MethodName := ⟨RX12, "sees", "(III)I"⟩
abbrev cX12_whereMet : ByteArray := prog_14_method_29_code
def yX12_whereMet : MethodName := ⟨RX12, "whereMet", "()I"⟩
abbrev cX12_where : ByteArray := prog_14_method_30_code
def yX12_where : MethodName := ⟨RX12, "where", "(III)I"⟩
abbrev cX12_blocks : ByteArray := prog_14_method_31_code
def yX12_blocks : MethodName := ⟨RX12, "blocks", "(IIII)I"⟩
abbrev cX12_showsTo : ByteArray := prog_14_method_32_code
def yX12_showsTo : MethodName := ⟨RX12, "showsTo", "(II)Z"⟩
abbrev cX12_shows : ByteArray := prog_14_method_33_code
def yX12_shows : MethodName := ⟨RX12, "shows", "(II)I"⟩
abbrev cX12_black : ByteArray := prog_14_method_34_code
def yX12_black : MethodName := ⟨RX12, "black", "()I"⟩
abbrev cX12_feed : ByteArray := prog_14_method_35_code
def yX12_feed : MethodName := ⟨RX12, "feed", "(IIIII)I"⟩
abbrev cX12_end : ByteArray := prog_14_method_36_code
def yX12_end : MethodName := ⟨RX12, "end", "(I)Z"⟩
abbrev cX12_fail : ByteArray := prog_14_method_37_code
def yX12_fail : MethodName := ⟨RX12, "fail", "(II)V"⟩
abbrev cX12_isLetter : ByteArray := prog_14_method_38_code
def yX12_isLetter : MethodName := ⟨RX12, "isLetter", "(I)Z"⟩
abbrev cX12_isDigit : ByteArray := prog_14_method_39_code
def yX12_isDigit : MethodName := ⟨RX12, "isDigit", "(I)Z"⟩
abbrev cX12_next : ByteArray := prog_14_method_40_code
def yX12_next : MethodName := ⟨RX12, "next", "()I"⟩
abbrev cX12_takes : ByteArray := prog_14_method_41_code
def yX12_takes : MethodName := ⟨RX12, "takes", "([C)Z"⟩
abbrev cX12_asks : ByteArray := prog_14_method_42_code
def yX12_asks : MethodName := ⟨RX12, "asks", "([C)V"⟩
abbrev cX12_asksSign : ByteArray := prog_14_method_43_code
def yX12_asksSign : MethodName := ⟨RX12, "asksSign", "(I)V"⟩
abbrev cX12_number : ByteArray := prog_14_method_44_code
def yX12_number : MethodName := ⟨RX12, "number", "(II)I"⟩
abbrev cX12_name : ByteArray := prog_14_method_45_code
def yX12_name : MethodName := ⟨RX12, "name", "()J"⟩
abbrev cX12_codeOf : ByteArray := prog_14_method_46_code
def yX12_codeOf : MethodName := ⟨RX12, "codeOf", "(III)I"⟩
abbrev cX12_adds : ByteArray := prog_14_method_47_code
def yX12_adds : MethodName := ⟨RX12, "adds", "(I)V"⟩
abbrev cX12_opens : ByteArray := prog_14_method_48_code
def yX12_opens : MethodName := ⟨RX12, "opens", "(IIJ)V"⟩
abbrev cX12_figureOf : ByteArray := prog_14_method_49_code
def yX12_figureOf : MethodName := ⟨RX12, "figureOf", "(J)I"⟩
abbrev cX12_closes : ByteArray := prog_14_method_50_code
def yX12_closes : MethodName := ⟨RX12, "closes", "()V"⟩
abbrev cX12_tells : ByteArray := prog_14_method_51_code
def yX12_tells : MethodName := ⟨RX12, "tells", "(I)V"⟩
abbrev cX12_isOpenName : ByteArray := prog_14_method_52_code
def yX12_isOpenName : MethodName := ⟨RX12, "isOpenName", "(J)Z"⟩
abbrev cX12_figure : ByteArray := prog_14_method_53_code
def yX12_figure : MethodName := ⟨RX12, "figure", "(I)V"⟩
abbrev cX12_does : ByteArray := prog_14_method_54_code
def yX12_does : MethodName := ⟨RX12, "does", "()V"⟩
abbrev cX12_statement : ByteArray := prog_14_method_55_code
def yX12_statement : MethodName := ⟨RX12, "statement", "()Z"⟩
abbrev cX12_reads : ByteArray := prog_14_method_56_code
def yX12_reads : MethodName := ⟨RX12, "reads", "()V"⟩
abbrev cX12_init : ByteArray := prog_14_method_57_code
def yX12_init : MethodName := ⟨RX12, "<init>", "()V"⟩
abbrev cX12_floorOf : ByteArray := prog_14_method_58_code
def yX12_floorOf : MethodName := ⟨RX12, "floorOf", "(II)I"⟩
abbrev cX12_goesOn : ByteArray := prog_14_method_59_code
def yX12_goesOn : MethodName := ⟨RX12, "goesOn", "()V"⟩
abbrev cX12_holds : ByteArray := prog_14_method_60_code
def yX12_holds : MethodName := ⟨RX12, "holds", "(II)V"⟩
abbrev cX12_moves : ByteArray := prog_14_method_61_code
def yX12_moves : MethodName := ⟨RX12, "moves", "(I)V"⟩
abbrev cX12_rises : ByteArray := prog_14_method_62_code
def yX12_rises : MethodName := ⟨RX12, "rises", "(I)V"⟩
abbrev cX12_enters : ByteArray := prog_14_method_63_code
def yX12_enters : MethodName := ⟨RX12, "enters", "(III)V"⟩
abbrev cX12_carries : ByteArray := prog_14_method_64_code
def yX12_carries : MethodName := ⟨RX12, "carries", "(I)I"⟩
abbrev cX12_walks : ByteArray := prog_14_method_65_code
def yX12_walks : MethodName := ⟨RX12, "walks", "()V"⟩
abbrev cX12_walk : ByteArray := prog_14_method_66_code
def yX12_walk : MethodName := ⟨RX12, "walk", "()I"⟩
abbrev cX12_fault : ByteArray := prog_14_method_67_code
def yX12_fault : MethodName := ⟨RX12, "fault", "(I)I"⟩
abbrev cX12_feetX : ByteArray := prog_14_method_68_code
def yX12_feetX : MethodName := ⟨RX12, "feetX", "(I)I"⟩
abbrev cX12_feetY : ByteArray := prog_14_method_69_code
def yX12_feetY : MethodName := ⟨RX12, "feetY", "(I)I"⟩
abbrev cX12_isHeld : ByteArray := prog_14_method_70_code
def yX12_isHeld : MethodName := ⟨RX12, "isHeld", "(I)Z"⟩
abbrev cX12_clashes : ByteArray := prog_14_method_71_code
def yX12_clashes : MethodName := ⟨RX12, "clashes", "(I)I"⟩
abbrev cX12_isCount : ByteArray := prog_14_method_72_code
def yX12_isCount : MethodName := ⟨RX12, "isCount", "(I)Z"⟩
abbrev cX12_count : ByteArray := prog_14_method_73_code
def yX12_count : MethodName := ⟨RX12, "count", "(II)I"⟩
abbrev cX12_seesFace : ByteArray := prog_14_method_74_code
def yX12_seesFace : MethodName := ⟨RX12, "seesFace", "(II)Z"⟩
abbrev cX12_hasCount : ByteArray := prog_14_method_75_code
def yX12_hasCount : MethodName := ⟨RX12, "hasCount", "(II)Z"⟩
abbrev cX12_has : ByteArray := prog_14_method_76_code
def yX12_has : MethodName := ⟨RX12, "has", "(II)I"⟩
abbrev cX12_countsOfSeat : ByteArray := prog_14_method_77_code
def yX12_countsOfSeat : MethodName := ⟨RX12, "countsOfSeat", "(I)I"⟩
abbrev cX12_counts : ByteArray := prog_14_method_78_code
def yX12_counts : MethodName := ⟨RX12, "counts", "(I)I"⟩
abbrev cX12_house : ByteArray := prog_14_method_79_code
def yX12_house : MethodName := ⟨RX12, "house", "()I"⟩
abbrev cX12_canAll : ByteArray := prog_14_method_80_code
def yX12_canAll : MethodName := ⟨RX12, "canAll", "(IIIII)Z"⟩
abbrev cX12_grid : ByteArray := prog_14_method_81_code
def yX12_grid : MethodName := ⟨RX12, "grid", "(IIIII)I"⟩
abbrev cX12_settings : ByteArray := prog_14_method_82_code
def yX12_settings : MethodName := ⟨RX12, "settings", "()I"⟩
abbrev cX12_sets : ByteArray := prog_14_method_83_code
def yX12_sets : MethodName := ⟨RX12, "sets", "(I)Z"⟩
abbrev cX12_backs : ByteArray := prog_14_method_84_code
def yX12_backs : MethodName := ⟨RX12, "backs", "()V"⟩
abbrev cX12_isSetting : ByteArray := prog_14_method_85_code
def yX12_isSetting : MethodName := ⟨RX12, "isSetting", "(I)Z"⟩
abbrev cX12_triedAt : ByteArray := prog_14_method_86_code
def yX12_triedAt : MethodName := ⟨RX12, "triedAt", "(I)I"⟩
abbrev cX12_tried : ByteArray := prog_14_method_87_code
def yX12_tried : MethodName := ⟨RX12, "tried", "(I)I"⟩
abbrev cX12_best : ByteArray := prog_14_method_88_code
def yX12_best : MethodName := ⟨RX12, "best", "()I"⟩
abbrev cX12_take : ByteArray := prog_14_method_89_code
def yX12_take : MethodName := ⟨RX12, "take", "(I)Z"⟩
abbrev cX12_mayJoin : ByteArray := prog_14_method_90_code
def yX12_mayJoin : MethodName := ⟨RX12, "mayJoin", "(II)Z"⟩
abbrev cX12_notesFaces : ByteArray := prog_14_method_91_code
def yX12_notesFaces : MethodName := ⟨RX12, "notesFaces", "()V"⟩
abbrev cX12_joins : ByteArray := prog_14_method_92_code
def yX12_joins : MethodName := ⟨RX12, "joins", "(II)I"⟩
abbrev cX12_join : ByteArray := prog_14_method_93_code
def yX12_join : MethodName := ⟨RX12, "join", "(I)I"⟩
abbrev cX12_report : ByteArray := prog_14_method_94_code
def yX12_report : MethodName := ⟨RX12, "report", "(IIZ)I"⟩
abbrev cX12_void_ : ByteArray := prog_14_method_95_code
def yX12_void_ : MethodName := ⟨RX12, "void_", "(I)I"⟩
abbrev cX12_notesQuarrels : ByteArray := prog_14_method_96_code
def yX12_notesQuarrels : MethodName := ⟨RX12, "notesQuarrels", "(I)Z"⟩
abbrev cX12_quarrelsAt : ByteArray := prog_14_method_97_code
def yX12_quarrelsAt : MethodName := ⟨RX12, "quarrelsAt", "(I)I"⟩
abbrev cX12_isAct : ByteArray := prog_14_method_98_code
def yX12_isAct : MethodName := ⟨RX12, "isAct", "(I)Z"⟩
abbrev cX12_quarrels : ByteArray := prog_14_method_99_code
def yX12_quarrels : MethodName := ⟨RX12, "quarrels", "(II)I"⟩
abbrev cX12_notesLikely : ByteArray := prog_14_method_100_code
def yX12_notesLikely : MethodName := ⟨RX12, "notesLikely", "()Z"⟩
abbrev cX12_likely : ByteArray := prog_14_method_101_code
def yX12_likely : MethodName := ⟨RX12, "likely", "(I)I"⟩
abbrev cX12_since : ByteArray := prog_14_method_102_code
def yX12_since : MethodName := ⟨RX12, "since", "()I"⟩
abbrev cX12_all : ByteArray := prog_14_method_103_code
def yX12_all : MethodName := ⟨RX12, "all", "(I)I"⟩
def RJ9 : String := "java/lang/Math"
def TJ9 : u_T := fun k => match k with
  | _ => ("", "", "", false)
def tyJ9 : Nat → FieldType := fun k => match k with
  | _ => .int
abbrev cJ9_floorDiv_7cf53 : ByteArray := prog_15_method_47_code
def yJ9_floorDiv_7cf53 : MethodName := ⟨RJ9, "floorDiv", "(II)I"⟩
abbrev cJ9_abs_067f4 : ByteArray := prog_15_method_61_code
def yJ9_abs_067f4 : MethodName := ⟨RJ9, "abs", "(J)J"⟩
abbrev cJ9_min_7cf53 : ByteArray := prog_15_method_69_code
def yJ9_min_7cf53 : MethodName := ⟨RJ9, "min", "(II)I"⟩
def RJ0 : String := "java/lang/String"
def TJ0 : u_T := fun k => match k with
  | _ => ("", "", "", false)
def tyJ0 : Nat → FieldType := fun k => match k with
  | _ => .int
abbrev cJ0_length_8abf5 : ByteArray := prog_16_method_54_code
def yJ0_length_8abf5 : MethodName := ⟨RJ0, "length", "()I"⟩
abbrev cJ0_charAt_5068e : ByteArray := prog_16_method_56_code
def yJ0_charAt_5068e : MethodName := ⟨RJ0, "charAt", "(I)C"⟩
abbrev cJ0_coder_7d493 : ByteArray := prog_16_method_152_code
def yJ0_coder_7d493 : MethodName := ⟨RJ0, "coder", "()B"⟩
abbrev cJ0_isLatin1_aae02 : ByteArray := prog_16_method_154_code
def yJ0_isLatin1_aae02 : MethodName := ⟨RJ0, "isLatin1", "()Z"⟩
abbrev cJ0_checkIndex_df160 : ByteArray := prog_16_method_155_code
def yJ0_checkIndex_df160 : MethodName := ⟨RJ0, "checkIndex", "(II)V"⟩
def RJ1 : String := "java/lang/StringLatin1"
def TJ1 : u_T := fun k => match k with
  | _ => ("", "", "", false)
def tyJ1 : Nat → FieldType := fun k => match k with
  | _ => .int
abbrev cJ1_charAt_3b067 : ByteArray := prog_17_method_2_code
def yJ1_charAt_3b067 : MethodName := ⟨RJ1, "charAt", "([BI)C"⟩
def RJ2 : String := "java/lang/StringUTF16"
def TJ2 : u_T := fun k => match k with
  | _ => ("", "", "", false)
def tyJ2 : Nat → FieldType := fun k => match k with
  | _ => .int
abbrev cJ2_getChar_3b067 : ByteArray := prog_18_method_5_code
def yJ2_getChar_3b067 : MethodName := ⟨RJ2, "getChar", "([BI)C"⟩
abbrev cJ2_length_9d52b : ByteArray := prog_18_method_6_code
def yJ2_length_9d52b : MethodName := ⟨RJ2, "length", "([B)I"⟩
abbrev cJ2_charAt_3b067 : ByteArray := prog_18_method_83_code
def yJ2_charAt_3b067 : MethodName := ⟨RJ2, "charAt", "([BI)C"⟩
abbrev cJ2_checkIndex_2214a : ByteArray := prog_18_method_91_code
def yJ2_checkIndex_2214a : MethodName := ⟨RJ2, "checkIndex", "(I[B)V"⟩
def RJ3 : String := "jdk/internal/util/Preconditions"
def TJ3 : u_T := fun k => match k with
  | _ => ("", "", "", false)
def tyJ3 : Nat → FieldType := fun k => match k with
  | _ => .int
abbrev cJ3_checkIndex_8e157 : ByteArray := prog_19_method_11_code
def yJ3_checkIndex_8e157 : MethodName := ⟨RJ3, "checkIndex", "(IILjava/util/function/BiFunction;)I"⟩
def RL : String := "GhostPaneLaw"
abbrev cL_law : ByteArray := code
def yL_law : MethodName := ⟨RL, "law", "([I)Z"⟩
abbrev vwCl : List vw_C := [(RX0, TX0, 7), (RX1, TX1, 9), (RX2, TX2, 4), (RX3, TX3, 16), (RX4, TX4, 5), (RX5, TX5, 4), (RX6, TX6, 6), (RX7, TX7, 19), (RX8, TX8, 6), (RX9, TX9, 7), (RX10, TX10, 7), (RX11, TX11, 8), (RX12, TX12, 104)]
