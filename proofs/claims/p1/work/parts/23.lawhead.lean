/-! THE CLAIM OUT OF ONE WALK OF THE LAW'S BODY. Your part is whole_start (and what it stands on); all else here is the same for every law, but numbers. -/
def R_law : String := "GhostPaneLaw"
def lw_P (b : Addr) (xs : List Int32) (args : Array Value) (s : State) : Prop := args = #[.ref b] ∧ s.IntsAt b xs ∧ xs.length ≤ 7 ∧ (Jvm.Cond.and given_1 narrow_1).before args s = true
def lw_Q (_ : Array Value) (s : State) (o : Outcome) (t : State) : Prop := o = .returned (some (.int 1)) ∧ Framed s o t [] 600000 7302250
def lw_Z (below : List Frame) (a : Array Value) (s : State) : State → Prop := fun t => ∃ o, t.status = .running ∧ Ended t below o ∧ lw_Q a s o t
/-- the law's own end, with 1 on the stack, nothing written that was there before, its room as the claim has it -/
theorem lw_ret {p : Program} {l : Launch} {e : Env} {s : State} {m : MethodId} {below : List Frame} {meth : Method} {c : Code} {b : Nat} (hx : p.tables.exec = Jvm.exec) (hb : c.code = code) (hr : meth.sig.returnType = ret) (hlocks : meth.locks = false) {pc : Nat} {H : Heap} {ls : Array Slot} (hdg : decode code pc = .ok (.ireturn, 1)) : W p l e room_1 s m #[Value.ref b] below meth c H [] 600000 7302250 (lw_Z below #[Value.ref b] s) (F0 m pc ls [.int 1]) := by
  intro T hT X
  obtain ⟨fs, hret, hrun, hended, hW, hframe⟩ := X.leave (v := some (.int 1)) (hlocks := hlocks) (fun h => by rw [hr] at h; cases h)
  have hmeth' : T.vm.method? m = some meth := X.method'
  refine ⟨T.setFrames fs, ?_, .returned (some (.int 1)), hrun, hended, rfl, ⟨_, rfl⟩, hW, hframe⟩
  jvm_step X.here [X.here.top, hx, hb, hdg, hmeth', hr, ret, narrow_b1]
  (try refine ⟨rfl, ?_⟩); (try refine ⟨rfl, ?_⟩)
  first | (intro acts; rw [hret _ acts rfl rfl rfl]) | rw [hret _ _ rfl rfl rfl]
  exact Steps.refl _
/-- what holds at the law's entry: the machine, the code, the tables' words (any of lw_tbl by 'hts w (by decide +kernel)'), the script of L ints xs at the cell b, what the Statement gives of the start (any of its parts by flat_of_before) -/
def lw_At (p : Program) (s : State) (m : MethodId) (meth : Method) (c : Code) (b L : Nat) (xs : Nat → Int32) : Prop :=
  p.tables.exec = Jvm.exec ∧ c.code = code ∧ meth.sig.returnType = ret ∧ c.maxLocals = 4 ∧ s.vm.findClass R_law = some m.cls ∧ (∀ w ∈ lw_tbl, w.before #[Value.ref b] s = true) ∧ va_X b L xs s s.heap ∧ b < s.heap.size ∧ meth.locks = false ∧ (Jvm.Cond.and given_1 narrow_1).before #[Value.ref b] s = true
abbrev lw_W (cy : Nat → ClassId) (xa ma : Nat → Nat) (fO : Nat → Option Nat) : va_W := [((xa 0), .inr (11, [.ref (xa 1), .ref (xa 3), .ref (xa 7), .ref (xa 11), .ref (xa 20), .ref (xa 24), .ref (xa 25), .ref (xa 29)])), ((xa 1), .inr (9, [.int 0, .int 0, .int (-1), .int 0, .int 0, .int 0, .ref (xa 2)])), ((xa 2), .inl (cy 0, 600, .inl (fun _ => 0))), ((xa 3), .inr (6, [.ref (xa 4), .ref (xa 1), .ref (xa 5), .ref (xa 38), .int 0, .int 0])), ((xa 4), .inr (2, [.int 0, .ref (xa 39), .ref (xa 40), .ref (xa 41)])), ((xa 5), .inl (cy 5, 7, .inr (.inr (.inr (.inr fO))))), ((xa 6), .inr (0, [.int 0, .int 0, .int 0, .int 0, .int 0, .int 0, .int 0])), ((xa 7), .inr (10, [.int 0, .ref (xa 8), .ref (xa 9), .ref (xa 10), .ref (xa 42), .ref (xa 43), .int 0])), ((xa 8), .inl (cy 1, 241, .inl (fun _ => 0))), ((xa 9), .inl (cy 1, 241, .inl (fun _ => 0))), ((xa 10), .inl (cy 3, 241, .inl (upd (fun _ => 0) 0 1))), ((xa 11), .inr (7, [.int (-50), .int 0, .int 50, .int 80, .int (-60), .int (-40), .int 60, .int (-40), .int 0, .int 4, .int 0, .ref (xa 12), .ref (xa 13), .ref (xa 14), .ref (xa 15), .ref (xa 16), .ref (xa 17), .ref (xa 18), .ref (xa 19)])), ((xa 12), .inl (cy 3, 8, .inl (fun _ => 0))), ((xa 13), .inl (cy 1, 8, .inl (fun _ => 0))), ((xa 14), .inl (cy 1, 8, .inl (fun _ => 0))), ((xa 15), .inl (cy 3, 12, .inl (fun _ => 0))), ((xa 16), .inl (cy 6, 12, .inr (.inr (.inr (.inr (fun i => if i < 12 then some (xa (100 + i)) else none)))))), ((xa 17), .inl (cy 3, 12, .inl (fun _ => 0))), ((xa 18), .inl (cy 3, 8, .inl (fun _ => 0))), ((xa 19), .inl (cy 6, 8, .inr (.inr (.inr (.inr (fun i => if i < 8 then some (xa (120 + i)) else none)))))), ((xa 20), .inr (8, [.ref (xa 21), .int 0, .int 0, .int 0, .ref (xa 11), .ref (xa 7)])), ((xa 21), .inr (3, [.long 0, .int 0, .ref (xa 22), .ref (xa 23), .long 0, .long 0, .long 0, .long 0, .long 0, .long 0, .long 0, .long 0, .long 0, .long 0, .long 0, .long 0])), ((xa 22), .inl (cy 7, 12, .inr (.inr (.inr (.inr (fun i => if i < 12 then some (xa (140 + i)) else none)))))), ((xa 23), .inl (cy 3, 12, .inl (fun _ => 0))), ((xa 24), .inr (4, [.int 0, .int 0, .int 0, .int 0, .int 0])), ((xa 25), .inr (5, [.int 0, .ref (xa 26), .ref (xa 27), .ref (xa 28)])), ((xa 26), .inl (cy 1, 1000, .inl (fun _ => 0))), ((xa 27), .inl (cy 3, 1001, .inl (fun _ => 0))), ((xa 28), .inl (cy 3, 1001, .inl (fun _ => 0))), ((xa 29), .inr (1, [.int 0, .ref (xa 30), .ref (xa 31), .ref (xa 32), .ref (xa 33), .ref (xa 34), .ref (xa 35), .ref (xa 36), .ref (xa 37)])), ((xa 31), .inl (cy 1, 101, .inl (fun _ => 0))), ((xa 32), .inl (cy 1, 101, .inl (fun _ => 0))), ((xa 33), .inl (cy 3, 101, .inl (fun _ => 0))), ((xa 34), .inl (cy 3, 101, .inl (fun _ => 0))), ((xa 35), .inl (cy 1, 101, .inl (fun _ => 0))), ((xa 100), .inl (cy 1, 4, .inl (fun _ => 0))), ((xa 101), .inl (cy 1, 4, .inl (fun _ => 0))), ((xa 102), .inl (cy 1, 4, .inl (fun _ => 0))), ((xa 103), .inl (cy 1, 4, .inl (fun _ => 0))), ((xa 104), .inl (cy 1, 4, .inl (fun _ => 0))), ((xa 105), .inl (cy 1, 4, .inl (fun _ => 0))), ((xa 106), .inl (cy 1, 4, .inl (fun _ => 0))), ((xa 107), .inl (cy 1, 4, .inl (fun _ => 0))), ((xa 108), .inl (cy 1, 4, .inl (fun _ => 0))), ((xa 109), .inl (cy 1, 4, .inl (fun _ => 0))), ((xa 110), .inl (cy 1, 4, .inl (fun _ => 0))), ((xa 111), .inl (cy 1, 4, .inl (fun _ => 0))), ((xa 120), .inl (cy 1, 4, .inl (fun _ => 0))), ((xa 121), .inl (cy 1, 4, .inl (fun _ => 0))), ((xa 122), .inl (cy 1, 4, .inl (fun _ => 0))), ((xa 123), .inl (cy 1, 4, .inl (fun _ => 0))), ((xa 124), .inl (cy 1, 4, .inl (fun _ => 0))), ((xa 125), .inl (cy 1, 4, .inl (fun _ => 0))), ((xa 126), .inl (cy 1, 4, .inl (fun _ => 0))), ((xa 127), .inl (cy 1, 4, .inl (fun _ => 0))), ((xa 140), .inl (cy 2, 4, .inr (.inl (fun _ => 0)))), ((xa 141), .inl (cy 2, 4, .inr (.inl (fun _ => 0)))), ((xa 142), .inl (cy 2, 4, .inr (.inl (fun _ => 0)))), ((xa 143), .inl (cy 2, 4, .inr (.inl (fun _ => 0)))), ((xa 144), .inl (cy 2, 4, .inr (.inl (fun _ => 0)))), ((xa 145), .inl (cy 2, 4, .inr (.inl (fun _ => 0)))), ((xa 146), .inl (cy 2, 4, .inr (.inl (fun _ => 0)))), ((xa 147), .inl (cy 2, 4, .inr (.inl (fun _ => 0)))), ((xa 148), .inl (cy 2, 4, .inr (.inl (fun _ => 0)))), ((xa 149), .inl (cy 2, 4, .inr (.inl (fun _ => 0)))), ((xa 150), .inl (cy 2, 4, .inr (.inl (fun _ => 0)))), ((xa 151), .inl (cy 2, 4, .inr (.inl (fun _ => 0)))), ((ma 200), mo_0 ma), ((ma 11), .inl (cy 3, 8, .inl (fun _ => 0))), ((ma 12), .inl (cy 1, 8, .inl (fun _ => 0))), ((ma 13), .inl (cy 1, 8, .inl (fun _ => 0))), ((ma 14), .inl (cy 3, 12, .inl (fun _ => 0))), ((ma 15), .inl (cy 1, 12, .inl (fun _ => 0))), ((ma 16), .inl (cy 1, 12, .inl (fun _ => 0))), ((ma 17), .inl (cy 1, 12, .inl (fun _ => 0))), ((ma 18), .inl (cy 1, 12, .inl (fun _ => 0))), ((ma 19), .inl (cy 3, 12, .inl (fun _ => 0))), ((ma 20), .inl (cy 3, 8, .inl (fun _ => 0))), ((ma 21), .inl (cy 1, 8, .inl (fun _ => 0))), ((ma 22), .inl (cy 1, 8, .inl (fun _ => 0))), ((ma 23), .inl (cy 1, 8, .inl (fun _ => 0))), ((ma 24), .inl (cy 1, 8, .inl (fun _ => 0))), ((ma 33), .inl (cy 1, 600, .inl (fun _ => 0))), ((ma 68), .inl (cy 1, 8, .inl (fun _ => 0))), ((ma 69), .inl (cy 1, 8, .inl (fun _ => 0))), ((ma 70), .inl (cy 1, 8, .inl (fun _ => 0))), ((ma 73), .inl (cy 1, 241, .inl (fun _ => 0))), ((ma 74), .inl (cy 1, 241, .inl (fun _ => 0))), ((ma 75), .inl (cy 1, 241, .inl (upd (fun _ => 0) 0 1))), ((ma 93), .inl (cy 1, 1000, .inl (fun _ => 0))), ((ma 94), .inl (cy 3, 1001, .inl (fun _ => 0))), ((ma 95), .inl (cy 1, 1000, .inl (fun _ => 0))), ((ma 97), .inl (cy 1, 101, .inl (fun _ => 0))), ((ma 98), .inl (cy 1, 101, .inl (fun _ => 0))), ((ma 99), .inl (cy 1, 101, .inl (fun _ => 0))), ((ma 100), .inl (cy 1, 101, .inl (fun _ => 0)))]
theorem gp_sw0_32 {x : Int32} (h0 : ¬ x = 0) (h1 : ¬ x = 1) (h2 : ¬ x = 2) (h3 : ¬ x = 3) (h4 : ¬ x = 4) (h5 : ¬ x = 5) (h6 : ¬ x = 6) (h7 : ¬ x = 7) (h8 : ¬ x = 8) (h9 : ¬ x = 9) (h10 : ¬ x = 10) (h11 : ¬ x = 11) (h12 : ¬ x = 12) (h13 : ¬ x = 13) (h14 : ¬ x = 14) (h15 : ¬ x = 15) (h16 : ¬ x = 16) (h17 : ¬ x = 17) (h18 : ¬ x = 18) (h19 : ¬ x = 19) (h20 : ¬ x = 20) (h21 : ¬ x = 21) (h22 : ¬ x = 22) (h23 : ¬ x = 23) (h24 : ¬ x = 24) (h25 : ¬ x = 25) (h26 : ¬ x = 26) (h27 : ¬ x = 27) (h28 : ¬ x = 28) (h29 : ¬ x = 29) (h30 : ¬ x = 30) (h31 : ¬ x = 31) (h32 : ¬ x = 32) : x.toInt < 0 ∨ 32 < x.toInt := by
  have a0 := lv_neT h0 (a := 0) (by decide)
  have a1 := lv_neT h1 (a := 1) (by decide)
  have a2 := lv_neT h2 (a := 2) (by decide)
  have a3 := lv_neT h3 (a := 3) (by decide)
  have a4 := lv_neT h4 (a := 4) (by decide)
  have a5 := lv_neT h5 (a := 5) (by decide)
  have a6 := lv_neT h6 (a := 6) (by decide)
  have a7 := lv_neT h7 (a := 7) (by decide)
  have a8 := lv_neT h8 (a := 8) (by decide)
  have a9 := lv_neT h9 (a := 9) (by decide)
  have a10 := lv_neT h10 (a := 10) (by decide)
  have a11 := lv_neT h11 (a := 11) (by decide)
  have a12 := lv_neT h12 (a := 12) (by decide)
  have a13 := lv_neT h13 (a := 13) (by decide)
  have a14 := lv_neT h14 (a := 14) (by decide)
  have a15 := lv_neT h15 (a := 15) (by decide)
  have a16 := lv_neT h16 (a := 16) (by decide)
  have a17 := lv_neT h17 (a := 17) (by decide)
  have a18 := lv_neT h18 (a := 18) (by decide)
  have a19 := lv_neT h19 (a := 19) (by decide)
  have a20 := lv_neT h20 (a := 20) (by decide)
  have a21 := lv_neT h21 (a := 21) (by decide)
  have a22 := lv_neT h22 (a := 22) (by decide)
  have a23 := lv_neT h23 (a := 23) (by decide)
  have a24 := lv_neT h24 (a := 24) (by decide)
  have a25 := lv_neT h25 (a := 25) (by decide)
  have a26 := lv_neT h26 (a := 26) (by decide)
  have a27 := lv_neT h27 (a := 27) (by decide)
  have a28 := lv_neT h28 (a := 28) (by decide)
  have a29 := lv_neT h29 (a := 29) (by decide)
  have a30 := lv_neT h30 (a := 30) (by decide)
  have a31 := lv_neT h31 (a := 31) (by decide)
  have a32 := lv_neT h32 (a := 32) (by decide)
  omega
