abbrev gp_tm (i : Nat) : Term := .string RX6 (gp_sx.getD i (0, "")).1
theorem gp_f1 : ∀ i : Fin 12, Cond.exactly (gp_tm i.val) "java/lang/String" ∈ flatC (Jvm.Cond.and given_1 narrow_1) := by decide +kernel
theorem gp_f2 : ∀ i : Fin 12, Cond.eq (.field (gp_tm i.val) "java/lang/String" "coder" "B") (.int 0) ∈ flatC (Jvm.Cond.and given_1 narrow_1) := by decide +kernel
theorem gp_f3 : ∀ i : Fin 12, Cond.arrayOf (.field (gp_tm i.val) "java/lang/String" "value" "[B") .byte ∈ flatC (Jvm.Cond.and given_1 narrow_1) := by decide +kernel
theorem gp_f4 : ∀ i : Fin 12, Cond.eq (.length (.field (gp_tm i.val) "java/lang/String" "value" "[B")) (.int (Int32.ofNat (gp_len.getD i.val 0))) ∈ flatC (Jvm.Cond.and given_1 narrow_1) := by decide +kernel
theorem gp_f5 : ∀ i : Fin 12, ∀ j : Fin 6, j.val < gp_len.getD i.val 0 → Cond.eq (.elem (.field (gp_tm i.val) "java/lang/String" "value" "[B") (.int (Int32.ofNat j.val))) (.int ((gp_byt.getD i.val []).getD j.val 0)) ∈ flatC (Jvm.Cond.and given_1 narrow_1) := by decide +kernel
theorem gp_f6 : ∀ i j : Fin 12, i ≠ j → Cond.not (Cond.eq (gp_tm i.val) (gp_tm j.val)) ∈ flatC (Jvm.Cond.and given_1 narrow_1) ∨ Cond.not (Cond.eq (gp_tm j.val) (gp_tm i.val)) ∈ flatC (Jvm.Cond.and given_1 narrow_1) := by decide +kernel
theorem gp_Zof {args : Array Value} {s : State} {A : Nat → Prop} (hgv : (Jvm.Cond.and given_1 narrow_1).before args s = true) (hts : ∀ w ∈ lw_tbl, w.before args s = true) (hA : ∀ a : Nat, a < s.heap.size → ¬ A a) : ∃ sk sv : Nat → Nat, gp_Z sk sv A s s.heap := by
  have hs := flat_of_before _ hgv
  obtain ⟨sk, sv, h1, h2⟩ := vk_Sof (args := args) (s := s) (N := 12) (tm := gp_tm) (len := gp_len) (byt := gp_byt) (A := A) (fun i _ => by have := gp_len6 i; omega) (fun i hi => hs _ (gp_f1 ⟨i, hi⟩)) (fun i hi => hs _ (gp_f2 ⟨i, hi⟩)) (fun i hi => hs _ (gp_f3 ⟨i, hi⟩)) (fun i hi => hs _ (gp_f4 ⟨i, hi⟩)) (fun i hi j hj => hs _ (gp_f5 ⟨i, hi⟩ ⟨j, by have := gp_len6 i; omega⟩ hj)) (fun i j hi hj hij => (gp_f6 ⟨i, hi⟩ ⟨j, hj⟩ (fun z => hij (congrArg Fin.val z))).imp (hs _) (hs _)) hA
  refine ⟨sk, sv, h1, va_Zof (hts (.laysStatic "java/lang/String" "COMPACT_STRINGS" "Z") (gp_t4 (List.mem_of_getElem? (i := 48) rfl))) (hts (.initialized "java/lang/String") (gp_t1 (List.mem_of_getElem? (i := 15) rfl))) (va_eqi (hs _ (by decide +kernel))) hA, va_Zqof (hts (.laysStatic "jdk/internal/util/Preconditions" "SIOOBE_FORMATTER" "Ljava/util/function/BiFunction;") (gp_t4 (List.mem_of_getElem? (i := 64) rfl))) (hts (.initialized "jdk/internal/util/Preconditions") (gp_t1 (List.mem_of_getElem? (i := 17) rfl))) (hs _ (by decide +kernel)) hA, fun i hi => ?_⟩
  refine vk_R.of (A := args) ?_ (h2 i hi)
  match i, hi with
  | 0, _ => exact (hts (.stringRef "GhostPane$Parser" 86 "at") (gp_t4 (List.mem_of_getElem? (i := 34) rfl)))
  | 1, _ => exact (hts (.stringRef "GhostPane$Parser" 99 "go") (gp_t4 (List.mem_of_getElem? (i := 103) rfl)))
  | 2, _ => exact (hts (.stringRef "GhostPane$Parser" 104 "stay") (gp_t4 (List.mem_of_getElem? (i := 120) rfl)))
  | 3, _ => exact (hts (.stringRef "GhostPane$Parser" 110 "rise") (gp_t4 (List.mem_of_getElem? (i := 121) rfl)))
  | 4, _ => exact (hts (.stringRef "GhostPane$Parser" 115 "light") (gp_t4 (List.mem_of_getElem? (i := 126) rfl)))
  | 5, _ => exact (hts (.stringRef "GhostPane$Parser" 120 "do") (gp_t4 (List.mem_of_getElem? (i := 133) rfl)))
  | 6, _ => exact (hts (.stringRef "GhostPane$Parser" 125 "repeat") (gp_t4 (List.mem_of_getElem? (i := 150) rfl)))
  | 7, _ => exact (hts (.stringRef "GhostPane$Parser" 130 "figure") (gp_t4 (List.mem_of_getElem? (i := 163) rfl)))
  | 8, _ => exact (hts (.stringRef "GhostPane$Parser" 153 "to") (gp_t4 (List.mem_of_getElem? (i := 108) rfl)))
  | 9, _ => exact (hts (.stringRef "GhostPane$Parser" 159 "in") (gp_t4 (List.mem_of_getElem? (i := 115) rfl)))
  | 10, _ => exact (hts (.stringRef "GhostPane$Parser" 161 "on") (gp_t4 (List.mem_of_getElem? (i := 131) rfl)))
  | 11, _ => exact (hts (.stringRef "GhostPane$Parser" 163 "off") (gp_t4 (List.mem_of_getElem? (i := 132) rfl)))
  | i + 12, hi => exact absurd hi (by omega)
