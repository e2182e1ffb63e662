set_option maxHeartbeats 4000000 in
set_option maxRecDepth 100000 in
theorem law_17 {p : Program} {e : Env} {s : State} {m : MethodId} {below : List Frame} {meth : Method} {c : Code} (l : Launch) {b : Nat} {xs : Nat → Int32} (C0 : lw_At p s m meth c b 7 xs) {D : va_G} {cy : Nat → ClassId} (hK : va_K D vwCl (gp_T cy) s) (hN : gp_N s) (xa ma : Nat → Nat) (fO : Nat → Option Nat) (hO : fO 0 = some (xa 6)) {A : Nat → Prop} (hAe : A = (fun q : Nat => s.heap.size ≤ q)) {H : Heap} {locs : List Loc} {ls : Array Slot} (hP : va_P D vwCl (lw_W cy xa ma fO) H) (hD : va_D A (lw_W cy xa ma fO)) (hS : va_S A s.heap H locs) (hl : lv_has ls 4 [(3, .int 0), (2, .ref (ma 200)), (1, .ref (xa 0)), (0, .ref b)]) : W p l e room_1 s m #[Value.ref b] below meth c H locs 153 14835 (lw_Z below #[Value.ref b] s) (F0 m 910 ls []) := by
  obtain ⟨hx, hb, hr, hml, hown, hts, hX, hbl, hlocks, hgv⟩ := id C0
  have hown : s.vm.findClass RL = some m.cls := hown
  have hA : ∀ q : Nat, s.heap.size ≤ q → A q := fun q h => by rw [hAe]; exact h
  have hbA : ¬ A b := by rw [hAe]; exact Nat.not_le.mpr hbl
  have hSA : ∀ q : Nat, A q → s.heap.size ≤ q := fun q h => by rw [hAe] at h; exact h
  refine lv_aload_n hx hb dL_law_910 rfl (lv_at hl 2 rfl) ?_
  refine lv_aload_n hx hb dL_law_911 rfl (lv_at hl 3 rfl) ?_
  refine lv_iload_n hx hb dL_law_912 rfl (lv_at hl 0 rfl) ?_
  refine lv_iconst (v := 1) hx hb dL_law_913 (by decide) ?_
  refine lv_iadd hx hb dL_law_914 ?_
  refine gp_ni 1 (by decide) ?_
  refine va_sld hx hb hX hbl hbA hS (by unfold vp_in; decide) dL_law_915 ?_
  refine gp_ni (xs 1) rfl ?_
  refine lv_aload_n hx hb dL_law_916 rfl (lv_at hl 3 rfl) ?_
  refine lv_iload_n hx hb dL_law_917 rfl (lv_at hl 0 rfl) ?_
  refine lv_iconst (v := 2) hx hb dL_law_918 (by decide) ?_
  refine lv_iadd hx hb dL_law_919 ?_
  refine gp_ni 2 (by decide) ?_
  refine va_sld hx hb hX hbl hbA hS (by unfold vp_in; decide) dL_law_920 ?_
  refine gp_ni (xs 2) rfl ?_
  have hPc := hP.sub (ws' := [((xa 0), .inr (11, [.ref (xa 1), .ref (xa 3), .ref (xa 7), .ref (xa 11), .ref (xa 20), .ref (xa 24), .ref (xa 25), .ref (xa 29)])), ((xa 7), .inr (10, [.int 0, .ref (xa 8), .ref (xa 9), .ref (xa 10), .ref (xa 42), .ref (xa 43), .int 0])), ((xa 8), .inl (cy 1, 241, .inl (fun _ => 0))), ((xa 9), .inl (cy 1, 241, .inl (fun _ => 0))), ((xa 10), .inl (cy 3, 241, .inl (upd (fun _ => 0) 0 1))), ((xa 11), .inr (7, [.int (-50), .int 0, .int 50, .int 80, .int (-60), .int (-40), .int 60, .int (-40), .int 0, .int 4, .int 0, .ref (xa 12), .ref (xa 13), .ref (xa 14), .ref (xa 15), .ref (xa 16), .ref (xa 17), .ref (xa 18), .ref (xa 19)])), ((xa 15), .inl (cy 3, 12, .inl (fun _ => 0))), ((xa 16), .inl (cy 6, 12, .inr (.inr (.inr (.inr (fun i => if i < 12 then some (xa (100 + i)) else none)))))), ((xa 17), .inl (cy 3, 12, .inl (fun _ => 0))), ((xa 18), .inl (cy 3, 8, .inl (fun _ => 0))), ((xa 20), .inr (8, [.ref (xa 21), .int 0, .int 0, .int 0, .ref (xa 11), .ref (xa 7)])), ((xa 21), .inr (3, [.long 0, .int 0, .ref (xa 22), .ref (xa 23), .long 0, .long 0, .long 0, .long 0, .long 0, .long 0, .long 0, .long 0, .long 0, .long 0, .long 0, .long 0])), ((xa 22), .inl (cy 7, 12, .inr (.inr (.inr (.inr (fun i => if i < 12 then some (xa (140 + i)) else none)))))), ((xa 23), .inl (cy 3, 12, .inl (fun _ => 0))), ((xa 100), .inl (cy 1, 4, .inl (fun _ => 0))), ((xa 101), .inl (cy 1, 4, .inl (fun _ => 0))), ((xa 102), .inl (cy 1, 4, .inl (fun _ => 0))), ((xa 103), .inl (cy 1, 4, .inl (fun _ => 0))), ((xa 104), .inl (cy 1, 4, .inl (fun _ => 0))), ((xa 105), .inl (cy 1, 4, .inl (fun _ => 0))), ((xa 106), .inl (cy 1, 4, .inl (fun _ => 0))), ((xa 107), .inl (cy 1, 4, .inl (fun _ => 0))), ((xa 108), .inl (cy 1, 4, .inl (fun _ => 0))), ((xa 109), .inl (cy 1, 4, .inl (fun _ => 0))), ((xa 110), .inl (cy 1, 4, .inl (fun _ => 0))), ((xa 111), .inl (cy 1, 4, .inl (fun _ => 0))), ((xa 140), .inl (cy 2, 4, .inr (.inl (fun _ => 0)))), ((xa 141), .inl (cy 2, 4, .inr (.inl (fun _ => 0)))), ((xa 142), .inl (cy 2, 4, .inr (.inl (fun _ => 0)))), ((xa 143), .inl (cy 2, 4, .inr (.inl (fun _ => 0)))), ((xa 144), .inl (cy 2, 4, .inr (.inl (fun _ => 0)))), ((xa 145), .inl (cy 2, 4, .inr (.inl (fun _ => 0)))), ((xa 146), .inl (cy 2, 4, .inr (.inl (fun _ => 0)))), ((xa 147), .inl (cy 2, 4, .inr (.inl (fun _ => 0)))), ((xa 148), .inl (cy 2, 4, .inr (.inl (fun _ => 0)))), ((xa 149), .inl (cy 2, 4, .inr (.inl (fun _ => 0)))), ((xa 150), .inl (cy 2, 4, .inr (.inl (fun _ => 0)))), ((xa 151), .inl (cy 2, 4, .inr (.inl (fun _ => 0))))]) [0, 7, 8, 9, 10, 11, 15, 16, 17, 18, 20, 21, 22, 23, 35, 36, 37, 38, 39, 40, 41, 42, 43, 44, 45, 46, 55, 56, 57, 58, 59, 60, 61, 62, 63, 64, 65, 66] rfl
  have hDc := hD.sub (ws' := [((xa 0), .inr (11, [.ref (xa 1), .ref (xa 3), .ref (xa 7), .ref (xa 11), .ref (xa 20), .ref (xa 24), .ref (xa 25), .ref (xa 29)])), ((xa 7), .inr (10, [.int 0, .ref (xa 8), .ref (xa 9), .ref (xa 10), .ref (xa 42), .ref (xa 43), .int 0])), ((xa 8), .inl (cy 1, 241, .inl (fun _ => 0))), ((xa 9), .inl (cy 1, 241, .inl (fun _ => 0))), ((xa 10), .inl (cy 3, 241, .inl (upd (fun _ => 0) 0 1))), ((xa 11), .inr (7, [.int (-50), .int 0, .int 50, .int 80, .int (-60), .int (-40), .int 60, .int (-40), .int 0, .int 4, .int 0, .ref (xa 12), .ref (xa 13), .ref (xa 14), .ref (xa 15), .ref (xa 16), .ref (xa 17), .ref (xa 18), .ref (xa 19)])), ((xa 15), .inl (cy 3, 12, .inl (fun _ => 0))), ((xa 16), .inl (cy 6, 12, .inr (.inr (.inr (.inr (fun i => if i < 12 then some (xa (100 + i)) else none)))))), ((xa 17), .inl (cy 3, 12, .inl (fun _ => 0))), ((xa 18), .inl (cy 3, 8, .inl (fun _ => 0))), ((xa 20), .inr (8, [.ref (xa 21), .int 0, .int 0, .int 0, .ref (xa 11), .ref (xa 7)])), ((xa 21), .inr (3, [.long 0, .int 0, .ref (xa 22), .ref (xa 23), .long 0, .long 0, .long 0, .long 0, .long 0, .long 0, .long 0, .long 0, .long 0, .long 0, .long 0, .long 0])), ((xa 22), .inl (cy 7, 12, .inr (.inr (.inr (.inr (fun i => if i < 12 then some (xa (140 + i)) else none)))))), ((xa 23), .inl (cy 3, 12, .inl (fun _ => 0))), ((xa 100), .inl (cy 1, 4, .inl (fun _ => 0))), ((xa 101), .inl (cy 1, 4, .inl (fun _ => 0))), ((xa 102), .inl (cy 1, 4, .inl (fun _ => 0))), ((xa 103), .inl (cy 1, 4, .inl (fun _ => 0))), ((xa 104), .inl (cy 1, 4, .inl (fun _ => 0))), ((xa 105), .inl (cy 1, 4, .inl (fun _ => 0))), ((xa 106), .inl (cy 1, 4, .inl (fun _ => 0))), ((xa 107), .inl (cy 1, 4, .inl (fun _ => 0))), ((xa 108), .inl (cy 1, 4, .inl (fun _ => 0))), ((xa 109), .inl (cy 1, 4, .inl (fun _ => 0))), ((xa 110), .inl (cy 1, 4, .inl (fun _ => 0))), ((xa 111), .inl (cy 1, 4, .inl (fun _ => 0))), ((xa 140), .inl (cy 2, 4, .inr (.inl (fun _ => 0)))), ((xa 141), .inl (cy 2, 4, .inr (.inl (fun _ => 0)))), ((xa 142), .inl (cy 2, 4, .inr (.inl (fun _ => 0)))), ((xa 143), .inl (cy 2, 4, .inr (.inl (fun _ => 0)))), ((xa 144), .inl (cy 2, 4, .inr (.inl (fun _ => 0)))), ((xa 145), .inl (cy 2, 4, .inr (.inl (fun _ => 0)))), ((xa 146), .inl (cy 2, 4, .inr (.inl (fun _ => 0)))), ((xa 147), .inl (cy 2, 4, .inr (.inl (fun _ => 0)))), ((xa 148), .inl (cy 2, 4, .inr (.inl (fun _ => 0)))), ((xa 149), .inl (cy 2, 4, .inr (.inl (fun _ => 0)))), ((xa 150), .inl (cy 2, 4, .inr (.inl (fun _ => 0)))), ((xa 151), .inl (cy 2, 4, .inr (.inl (fun _ => 0))))]) [0, 7, 8, 9, 10, 11, 15, 16, 17, 18, 20, 21, 22, 23, 35, 36, 37, 38, 39, 40, 41, 42, 43, 44, 45, 46, 55, 56, 57, 58, 59, 60, 61, 62, 63, 64, 65, 66] (by decide) rfl
  have hFc := va_free (wc := [((xa 0), .inr (11, [.ref (xa 1), .ref (xa 3), .ref (xa 7), .ref (xa 11), .ref (xa 20), .ref (xa 24), .ref (xa 25), .ref (xa 29)])), ((xa 7), .inr (10, [.int 0, .ref (xa 8), .ref (xa 9), .ref (xa 10), .ref (xa 42), .ref (xa 43), .int 0])), ((xa 8), .inl (cy 1, 241, .inl (fun _ => 0))), ((xa 9), .inl (cy 1, 241, .inl (fun _ => 0))), ((xa 10), .inl (cy 3, 241, .inl (upd (fun _ => 0) 0 1))), ((xa 11), .inr (7, [.int (-50), .int 0, .int 50, .int 80, .int (-60), .int (-40), .int 60, .int (-40), .int 0, .int 4, .int 0, .ref (xa 12), .ref (xa 13), .ref (xa 14), .ref (xa 15), .ref (xa 16), .ref (xa 17), .ref (xa 18), .ref (xa 19)])), ((xa 15), .inl (cy 3, 12, .inl (fun _ => 0))), ((xa 16), .inl (cy 6, 12, .inr (.inr (.inr (.inr (fun i => if i < 12 then some (xa (100 + i)) else none)))))), ((xa 17), .inl (cy 3, 12, .inl (fun _ => 0))), ((xa 18), .inl (cy 3, 8, .inl (fun _ => 0))), ((xa 20), .inr (8, [.ref (xa 21), .int 0, .int 0, .int 0, .ref (xa 11), .ref (xa 7)])), ((xa 21), .inr (3, [.long 0, .int 0, .ref (xa 22), .ref (xa 23), .long 0, .long 0, .long 0, .long 0, .long 0, .long 0, .long 0, .long 0, .long 0, .long 0, .long 0, .long 0])), ((xa 22), .inl (cy 7, 12, .inr (.inr (.inr (.inr (fun i => if i < 12 then some (xa (140 + i)) else none)))))), ((xa 23), .inl (cy 3, 12, .inl (fun _ => 0))), ((xa 100), .inl (cy 1, 4, .inl (fun _ => 0))), ((xa 101), .inl (cy 1, 4, .inl (fun _ => 0))), ((xa 102), .inl (cy 1, 4, .inl (fun _ => 0))), ((xa 103), .inl (cy 1, 4, .inl (fun _ => 0))), ((xa 104), .inl (cy 1, 4, .inl (fun _ => 0))), ((xa 105), .inl (cy 1, 4, .inl (fun _ => 0))), ((xa 106), .inl (cy 1, 4, .inl (fun _ => 0))), ((xa 107), .inl (cy 1, 4, .inl (fun _ => 0))), ((xa 108), .inl (cy 1, 4, .inl (fun _ => 0))), ((xa 109), .inl (cy 1, 4, .inl (fun _ => 0))), ((xa 110), .inl (cy 1, 4, .inl (fun _ => 0))), ((xa 111), .inl (cy 1, 4, .inl (fun _ => 0))), ((xa 140), .inl (cy 2, 4, .inr (.inl (fun _ => 0)))), ((xa 141), .inl (cy 2, 4, .inr (.inl (fun _ => 0)))), ((xa 142), .inl (cy 2, 4, .inr (.inl (fun _ => 0)))), ((xa 143), .inl (cy 2, 4, .inr (.inl (fun _ => 0)))), ((xa 144), .inl (cy 2, 4, .inr (.inl (fun _ => 0)))), ((xa 145), .inl (cy 2, 4, .inr (.inl (fun _ => 0)))), ((xa 146), .inl (cy 2, 4, .inr (.inl (fun _ => 0)))), ((xa 147), .inl (cy 2, 4, .inr (.inl (fun _ => 0)))), ((xa 148), .inl (cy 2, 4, .inr (.inl (fun _ => 0)))), ((xa 149), .inl (cy 2, 4, .inr (.inl (fun _ => 0)))), ((xa 150), .inl (cy 2, 4, .inr (.inl (fun _ => 0)))), ((xa 151), .inl (cy 2, 4, .inr (.inl (fun _ => 0))))]) hD hS hA [0, 7, 8, 9, 10, 11, 15, 16, 17, 18, 20, 21, 22, 23, 35, 36, 37, 38, 39, 40, 41, 42, 43, 44, 45, 46, 55, 56, 57, 58, 59, 60, 61, 62, 63, 64, 65, 66] rfl
  refine va_calli (va_runV (As := [.int (xs 1), .int (xs 2)]) (rest := []) ⟨hx, hb, hml, hown, hts⟩ (kX11_count l D cy H.size xa (xs 1) (xs 2)) (cwV 2 hts gc_kX11_count rfl rfl rfl (by decide +kernel) ⟨Nat.le_of_ble_eq_true rfl, Nat.le_of_ble_eq_true rfl⟩) (gp_preV (RX11, TX11, 8) 11 0 hPc hDc hK hN rfl rfl) rfl rfl hl.1 rfl (lv_room (Nat.le_of_ble_eq_true rfl)) dL_law_921 ⟨Nat.le_of_ble_eq_true rfl, Nat.le_of_ble_eq_true rfl⟩) hS (fun q _ h => hFc q h) hFc (fun r_1 u t H locs ht hvm hw hB hz1 hk1 hS => ?_)
  obtain ⟨hP, hD⟩ := gp_join (wr := [((ma 200), mo_0 ma), ((ma 11), .inl (cy 3, 8, .inl (fun _ => 0))), ((ma 12), .inl (cy 1, 8, .inl (fun _ => 0))), ((ma 13), .inl (cy 1, 8, .inl (fun _ => 0))), ((ma 14), .inl (cy 3, 12, .inl (fun _ => 0))), ((ma 15), .inl (cy 1, 12, .inl (fun _ => 0))), ((ma 16), .inl (cy 1, 12, .inl (fun _ => 0))), ((ma 17), .inl (cy 1, 12, .inl (fun _ => 0))), ((ma 18), .inl (cy 1, 12, .inl (fun _ => 0))), ((ma 19), .inl (cy 3, 12, .inl (fun _ => 0))), ((ma 20), .inl (cy 3, 8, .inl (fun _ => 0))), ((ma 21), .inl (cy 1, 8, .inl (fun _ => 0))), ((ma 22), .inl (cy 1, 8, .inl (fun _ => 0))), ((ma 23), .inl (cy 1, 8, .inl (fun _ => 0))), ((ma 24), .inl (cy 1, 8, .inl (fun _ => 0))), ((ma 33), .inl (cy 1, 600, .inl (fun _ => 0))), ((ma 68), .inl (cy 1, 8, .inl (fun _ => 0))), ((ma 69), .inl (cy 1, 8, .inl (fun _ => 0))), ((ma 70), .inl (cy 1, 8, .inl (fun _ => 0))), ((ma 73), .inl (cy 1, 241, .inl (fun _ => 0))), ((ma 74), .inl (cy 1, 241, .inl (fun _ => 0))), ((ma 75), .inl (cy 1, 241, .inl (upd (fun _ => 0) 0 1))), ((ma 93), .inl (cy 1, 1000, .inl (fun _ => 0))), ((ma 94), .inl (cy 3, 1001, .inl (fun _ => 0))), ((ma 95), .inl (cy 1, 1000, .inl (fun _ => 0))), ((ma 97), .inl (cy 1, 101, .inl (fun _ => 0))), ((ma 98), .inl (cy 1, 101, .inl (fun _ => 0))), ((ma 99), .inl (cy 1, 101, .inl (fun _ => 0))), ((ma 100), .inl (cy 1, 101, .inl (fun _ => 0)))]) (w1 := []) hP hD [0, 7, 8, 9, 10, 11, 15, 16, 17, 18, 20, 21, 22, 23, 35, 36, 37, 38, 39, 40, 41, 42, 43, 44, 45, 46, 55, 56, 57, 58, 59, 60, 61, 62, 63, 64, 65, 66] [67, 68, 69, 70, 71, 72, 73, 74, 75, 76, 77, 78, 79, 80, 81, 82, 83, 84, 85, 86, 87, 88, 89, 90, 91, 92, 93, 94, 95] rfl rfl (by decide) (by decide) hk1 hFc ht hB
  have hP : va_P D vwCl [((ma 200), mo_0 ma), ((ma 11), .inl (cy 3, 8, .inl (fun _ => 0))), ((ma 12), .inl (cy 1, 8, .inl (fun _ => 0))), ((ma 13), .inl (cy 1, 8, .inl (fun _ => 0))), ((ma 14), .inl (cy 3, 12, .inl (fun _ => 0))), ((ma 15), .inl (cy 1, 12, .inl (fun _ => 0))), ((ma 16), .inl (cy 1, 12, .inl (fun _ => 0))), ((ma 17), .inl (cy 1, 12, .inl (fun _ => 0))), ((ma 18), .inl (cy 1, 12, .inl (fun _ => 0))), ((ma 19), .inl (cy 3, 12, .inl (fun _ => 0))), ((ma 20), .inl (cy 3, 8, .inl (fun _ => 0))), ((ma 21), .inl (cy 1, 8, .inl (fun _ => 0))), ((ma 22), .inl (cy 1, 8, .inl (fun _ => 0))), ((ma 23), .inl (cy 1, 8, .inl (fun _ => 0))), ((ma 24), .inl (cy 1, 8, .inl (fun _ => 0))), ((ma 33), .inl (cy 1, 600, .inl (fun _ => 0))), ((ma 68), .inl (cy 1, 8, .inl (fun _ => 0))), ((ma 69), .inl (cy 1, 8, .inl (fun _ => 0))), ((ma 70), .inl (cy 1, 8, .inl (fun _ => 0))), ((ma 73), .inl (cy 1, 241, .inl (fun _ => 0))), ((ma 74), .inl (cy 1, 241, .inl (fun _ => 0))), ((ma 75), .inl (cy 1, 241, .inl (upd (fun _ => 0) 0 1))), ((ma 93), .inl (cy 1, 1000, .inl (fun _ => 0))), ((ma 94), .inl (cy 3, 1001, .inl (fun _ => 0))), ((ma 95), .inl (cy 1, 1000, .inl (fun _ => 0))), ((ma 97), .inl (cy 1, 101, .inl (fun _ => 0))), ((ma 98), .inl (cy 1, 101, .inl (fun _ => 0))), ((ma 99), .inl (cy 1, 101, .inl (fun _ => 0))), ((ma 100), .inl (cy 1, 101, .inl (fun _ => 0)))] H := hP
  have hD : va_D A [((ma 200), mo_0 ma), ((ma 11), .inl (cy 3, 8, .inl (fun _ => 0))), ((ma 12), .inl (cy 1, 8, .inl (fun _ => 0))), ((ma 13), .inl (cy 1, 8, .inl (fun _ => 0))), ((ma 14), .inl (cy 3, 12, .inl (fun _ => 0))), ((ma 15), .inl (cy 1, 12, .inl (fun _ => 0))), ((ma 16), .inl (cy 1, 12, .inl (fun _ => 0))), ((ma 17), .inl (cy 1, 12, .inl (fun _ => 0))), ((ma 18), .inl (cy 1, 12, .inl (fun _ => 0))), ((ma 19), .inl (cy 3, 12, .inl (fun _ => 0))), ((ma 20), .inl (cy 3, 8, .inl (fun _ => 0))), ((ma 21), .inl (cy 1, 8, .inl (fun _ => 0))), ((ma 22), .inl (cy 1, 8, .inl (fun _ => 0))), ((ma 23), .inl (cy 1, 8, .inl (fun _ => 0))), ((ma 24), .inl (cy 1, 8, .inl (fun _ => 0))), ((ma 33), .inl (cy 1, 600, .inl (fun _ => 0))), ((ma 68), .inl (cy 1, 8, .inl (fun _ => 0))), ((ma 69), .inl (cy 1, 8, .inl (fun _ => 0))), ((ma 70), .inl (cy 1, 8, .inl (fun _ => 0))), ((ma 73), .inl (cy 1, 241, .inl (fun _ => 0))), ((ma 74), .inl (cy 1, 241, .inl (fun _ => 0))), ((ma 75), .inl (cy 1, 241, .inl (upd (fun _ => 0) 0 1))), ((ma 93), .inl (cy 1, 1000, .inl (fun _ => 0))), ((ma 94), .inl (cy 3, 1001, .inl (fun _ => 0))), ((ma 95), .inl (cy 1, 1000, .inl (fun _ => 0))), ((ma 97), .inl (cy 1, 101, .inl (fun _ => 0))), ((ma 98), .inl (cy 1, 101, .inl (fun _ => 0))), ((ma 99), .inl (cy 1, 101, .inl (fun _ => 0))), ((ma 100), .inl (cy 1, 101, .inl (fun _ => 0)))] := hD
  obtain rfl : r_1 = (if sp_in (xs 1) 0 0 then sp_cnt (xs 2) else (-1000)) := hw
  refine lv_aload_n hx hb dL_law_924 rfl (lv_at hl 1 rfl) ?_
  refine lv_aload_n hx hb dL_law_925 rfl (lv_at hl 3 rfl) ?_
  refine lv_iload_n hx hb dL_law_926 rfl (lv_at hl 0 rfl) ?_
  refine lv_iconst (v := 1) hx hb dL_law_927 (by decide) ?_
  refine lv_iadd hx hb dL_law_928 ?_
  refine gp_ni 1 (by decide) ?_
  refine va_sld hx hb hX hbl hbA hS (by unfold vp_in; decide) dL_law_929 ?_
  refine gp_ni (xs 1) rfl ?_
  refine lv_aload_n hx hb dL_law_930 rfl (lv_at hl 3 rfl) ?_
  refine lv_iload_n hx hb dL_law_931 rfl (lv_at hl 0 rfl) ?_
  refine lv_iconst (v := 2) hx hb dL_law_932 (by decide) ?_
  refine lv_iadd hx hb dL_law_933 ?_
  refine gp_ni 2 (by decide) ?_
  refine va_sld hx hb hX hbl hbA hS (by unfold vp_in; decide) dL_law_934 ?_
  refine gp_ni (xs 2) rfl ?_
  have hPc := hP.sub (ws' := [((ma 200), mo_0 ma), ((ma 20), .inl (cy 3, 8, .inl (fun _ => 0))), ((ma 73), .inl (cy 1, 241, .inl (fun _ => 0))), ((ma 74), .inl (cy 1, 241, .inl (fun _ => 0))), ((ma 75), .inl (cy 1, 241, .inl (upd (fun _ => 0) 0 1)))]) [0, 10, 19, 20, 21] rfl
  have hDc := hD.sub (ws' := [((ma 200), mo_0 ma), ((ma 20), .inl (cy 3, 8, .inl (fun _ => 0))), ((ma 73), .inl (cy 1, 241, .inl (fun _ => 0))), ((ma 74), .inl (cy 1, 241, .inl (fun _ => 0))), ((ma 75), .inl (cy 1, 241, .inl (upd (fun _ => 0) 0 1)))]) [0, 10, 19, 20, 21] (by decide) rfl
  have hFc := va_free (wc := [((ma 200), mo_0 ma), ((ma 20), .inl (cy 3, 8, .inl (fun _ => 0))), ((ma 73), .inl (cy 1, 241, .inl (fun _ => 0))), ((ma 74), .inl (cy 1, 241, .inl (fun _ => 0))), ((ma 75), .inl (cy 1, 241, .inl (upd (fun _ => 0) 0 1)))]) hD hS hA [0, 10, 19, 20, 21] rfl
  refine va_calli (va_runV (As := [.int (xs 1), .int (xs 2)]) (rest := [.int (if sp_in (xs 1) 0 0 then sp_cnt (xs 2) else (-1000))]) ⟨hx, hb, hml, hown, hts⟩ (kX12_count l D cy H.size ma (xs 1) (xs 2)) (cwV 2 hts gc_kX12_count rfl rfl rfl (by decide +kernel) ⟨Nat.le_of_ble_eq_true rfl, Nat.le_of_ble_eq_true rfl⟩) (gp_preV (RX12, TX12, 104) 12 0 hPc hDc hK hN rfl rfl) rfl rfl hl.1 rfl (lv_room (Nat.le_of_ble_eq_true rfl)) dL_law_935 ⟨Nat.le_of_ble_eq_true rfl, Nat.le_of_ble_eq_true rfl⟩) hS (fun q _ h => hFc q h) hFc (fun r_2 u t H locs ht hvm hw hB hz1 hk1 hS => ?_)
  obtain ⟨hP, hD⟩ := gp_join (wr := []) (w1 := []) hP hD [0, 10, 19, 20, 21] [] rfl rfl (by decide) (by decide) hk1 hFc ht hB
  have hP : va_P D vwCl [] H := hP
  have hD : va_D A [] := hD
  obtain rfl : r_2 = (if sp_in (xs 1) 0 0 then sp_cnt (xs 2) else (-1000)) := hw
  refine lv_icmp_eq (tgt := 1364) hx hb dL_law_938 (by decide) (fun c_3 => ?_) (fun c_3 => absurd rfl c_3)
  refine lv_iinc (v := 7) (lv' := [(3, .int 7), (2, .ref (ma 200)), (1, .ref (xa 0)), (0, .ref b)]) hx hb dL_law_1364 hl (k := 0) rfl (by decide) (by decide) rfl (fun ls hl => ?_)
  refine lv_goto (tgt := 18) hx hb dL_law_1367 (by decide) ?_
  refine lv_iload_n hx hb dL_law_18 rfl (lv_at hl 0 rfl) ?_
  refine lv_aload_n hx hb dL_law_19 rfl (lv_at hl 3 rfl) ?_
  refine va_slen hx hb hX hbl hbA hS dL_law_20 ?_
  refine gp_ni 7 rfl ?_
  refine lv_bipush (v := 7) hx hb dL_law_21 (by decide) ?_
  refine lv_isub hx hb dL_law_23 ?_
  refine gp_ni 0 (by decide) ?_
  refine lv_icmp_gt (tgt := 1370) hx hb dL_law_24 (by decide) (fun c_4 => ?_) (fun c_4 => absurd (by decide) c_4)
  refine lv_iconst (v := 1) hx hb dL_law_1370 (by decide) ?_
  refine va_forget (fun q hq => hSA _ (hS.2.2 q hq)) ?_
  refine W.widen (k := 600000) (n := 7302250) (by decide) (by decide) ?_
  exact lw_ret hx hb hr hlocks dL_law_1371

set_option maxHeartbeats 4000000 in
set_option maxRecDepth 100000 in
theorem law_18 {p : Program} {e : Env} {s : State} {m : MethodId} {below : List Frame} {meth : Method} {c : Code} (l : Launch) {b : Nat} {xs : Nat → Int32} (C0 : lw_At p s m meth c b 7 xs) {D : va_G} {cy : Nat → ClassId} (hK : va_K D vwCl (gp_T cy) s) (hN : gp_N s) (xa ma : Nat → Nat) (fO : Nat → Option Nat) (hO : fO 0 = some (xa 6)) {A : Nat → Prop} (hAe : A = (fun q : Nat => s.heap.size ≤ q)) {H : Heap} {locs : List Loc} {ls : Array Slot} (hP : va_P D vwCl (lw_W cy xa ma fO) H) (hD : va_D A (lw_W cy xa ma fO)) (hS : va_S A s.heap H locs) (hl : lv_has ls 4 [(3, .int 0), (2, .ref (ma 200)), (1, .ref (xa 0)), (0, .ref b)]) : W p l e room_1 s m #[Value.ref b] below meth c H locs 153 14835 (lw_Z below #[Value.ref b] s) (F0 m 943 ls []) := by
  obtain ⟨hx, hb, hr, hml, hown, hts, hX, hbl, hlocks, hgv⟩ := id C0
  have hown : s.vm.findClass RL = some m.cls := hown
  have hA : ∀ q : Nat, s.heap.size ≤ q → A q := fun q h => by rw [hAe]; exact h
  have hbA : ¬ A b := by rw [hAe]; exact Nat.not_le.mpr hbl
  have hSA : ∀ q : Nat, A q → s.heap.size ≤ q := fun q h => by rw [hAe] at h; exact h
  refine lv_aload_n hx hb dL_law_943 rfl (lv_at hl 2 rfl) ?_
  refine lv_aload_n hx hb dL_law_944 rfl (lv_at hl 3 rfl) ?_
  refine lv_iload_n hx hb dL_law_945 rfl (lv_at hl 0 rfl) ?_
  refine lv_iconst (v := 1) hx hb dL_law_946 (by decide) ?_
  refine lv_iadd hx hb dL_law_947 ?_
  refine gp_ni 1 (by decide) ?_
  refine va_sld hx hb hX hbl hbA hS (by unfold vp_in; decide) dL_law_948 ?_
  refine gp_ni (xs 1) rfl ?_
  refine lv_aload_n hx hb dL_law_949 rfl (lv_at hl 3 rfl) ?_
  refine lv_iload_n hx hb dL_law_950 rfl (lv_at hl 0 rfl) ?_
  refine lv_iconst (v := 2) hx hb dL_law_951 (by decide) ?_
  refine lv_iadd hx hb dL_law_952 ?_
  refine gp_ni 2 (by decide) ?_
  refine va_sld hx hb hX hbl hbA hS (by unfold vp_in; decide) dL_law_953 ?_
  refine gp_ni (xs 2) rfl ?_
  have hPc := hP.sub (ws' := [((xa 0), .inr (11, [.ref (xa 1), .ref (xa 3), .ref (xa 7), .ref (xa 11), .ref (xa 20), .ref (xa 24), .ref (xa 25), .ref (xa 29)])), ((xa 11), .inr (7, [.int (-50), .int 0, .int 50, .int 80, .int (-60), .int (-40), .int 60, .int (-40), .int 0, .int 4, .int 0, .ref (xa 12), .ref (xa 13), .ref (xa 14), .ref (xa 15), .ref (xa 16), .ref (xa 17), .ref (xa 18), .ref (xa 19)])), ((xa 12), .inl (cy 3, 8, .inl (fun _ => 0)))]) [0, 11, 12] rfl
  have hDc := hD.sub (ws' := [((xa 0), .inr (11, [.ref (xa 1), .ref (xa 3), .ref (xa 7), .ref (xa 11), .ref (xa 20), .ref (xa 24), .ref (xa 25), .ref (xa 29)])), ((xa 11), .inr (7, [.int (-50), .int 0, .int 50, .int 80, .int (-60), .int (-40), .int 60, .int (-40), .int 0, .int 4, .int 0, .ref (xa 12), .ref (xa 13), .ref (xa 14), .ref (xa 15), .ref (xa 16), .ref (xa 17), .ref (xa 18), .ref (xa 19)])), ((xa 12), .inl (cy 3, 8, .inl (fun _ => 0)))]) [0, 11, 12] (by decide) rfl
  have hFc := va_free (wc := [((xa 0), .inr (11, [.ref (xa 1), .ref (xa 3), .ref (xa 7), .ref (xa 11), .ref (xa 20), .ref (xa 24), .ref (xa 25), .ref (xa 29)])), ((xa 11), .inr (7, [.int (-50), .int 0, .int 50, .int 80, .int (-60), .int (-40), .int 60, .int (-40), .int 0, .int 4, .int 0, .ref (xa 12), .ref (xa 13), .ref (xa 14), .ref (xa 15), .ref (xa 16), .ref (xa 17), .ref (xa 18), .ref (xa 19)])), ((xa 12), .inl (cy 3, 8, .inl (fun _ => 0)))]) hD hS hA [0, 11, 12] rfl
  refine va_calli (va_runV (As := [.int (xs 1), .int (xs 2)]) (rest := []) ⟨hx, hb, hml, hown, hts⟩ (kX11_has l D cy H.size xa (xs 1) (xs 2)) (cwV 2 hts gc_kX11_has rfl rfl rfl (by decide +kernel) ⟨Nat.le_of_ble_eq_true rfl, Nat.le_of_ble_eq_true rfl⟩) (gp_preV (RX11, TX11, 8) 11 0 hPc hDc hK hN rfl rfl) rfl rfl hl.1 rfl (lv_room (Nat.le_of_ble_eq_true rfl)) dL_law_954 ⟨Nat.le_of_ble_eq_true rfl, Nat.le_of_ble_eq_true rfl⟩) hS (fun q _ h => hFc q h) hFc (fun r_1 u t H locs ht hvm hw hB hz1 hk1 hS => ?_)
  obtain ⟨hP, hD⟩ := gp_join (wr := [((ma 200), mo_0 ma), ((ma 11), .inl (cy 3, 8, .inl (fun _ => 0))), ((ma 12), .inl (cy 1, 8, .inl (fun _ => 0))), ((ma 13), .inl (cy 1, 8, .inl (fun _ => 0))), ((ma 14), .inl (cy 3, 12, .inl (fun _ => 0))), ((ma 15), .inl (cy 1, 12, .inl (fun _ => 0))), ((ma 16), .inl (cy 1, 12, .inl (fun _ => 0))), ((ma 17), .inl (cy 1, 12, .inl (fun _ => 0))), ((ma 18), .inl (cy 1, 12, .inl (fun _ => 0))), ((ma 19), .inl (cy 3, 12, .inl (fun _ => 0))), ((ma 20), .inl (cy 3, 8, .inl (fun _ => 0))), ((ma 21), .inl (cy 1, 8, .inl (fun _ => 0))), ((ma 22), .inl (cy 1, 8, .inl (fun _ => 0))), ((ma 23), .inl (cy 1, 8, .inl (fun _ => 0))), ((ma 24), .inl (cy 1, 8, .inl (fun _ => 0))), ((ma 33), .inl (cy 1, 600, .inl (fun _ => 0))), ((ma 68), .inl (cy 1, 8, .inl (fun _ => 0))), ((ma 69), .inl (cy 1, 8, .inl (fun _ => 0))), ((ma 70), .inl (cy 1, 8, .inl (fun _ => 0))), ((ma 73), .inl (cy 1, 241, .inl (fun _ => 0))), ((ma 74), .inl (cy 1, 241, .inl (fun _ => 0))), ((ma 75), .inl (cy 1, 241, .inl (upd (fun _ => 0) 0 1))), ((ma 93), .inl (cy 1, 1000, .inl (fun _ => 0))), ((ma 94), .inl (cy 3, 1001, .inl (fun _ => 0))), ((ma 95), .inl (cy 1, 1000, .inl (fun _ => 0))), ((ma 97), .inl (cy 1, 101, .inl (fun _ => 0))), ((ma 98), .inl (cy 1, 101, .inl (fun _ => 0))), ((ma 99), .inl (cy 1, 101, .inl (fun _ => 0))), ((ma 100), .inl (cy 1, 101, .inl (fun _ => 0)))]) (w1 := []) hP hD [0, 11, 12] [67, 68, 69, 70, 71, 72, 73, 74, 75, 76, 77, 78, 79, 80, 81, 82, 83, 84, 85, 86, 87, 88, 89, 90, 91, 92, 93, 94, 95] rfl rfl (by decide) (by decide) hk1 hFc ht hB
  have hP : va_P D vwCl [((ma 200), mo_0 ma), ((ma 11), .inl (cy 3, 8, .inl (fun _ => 0))), ((ma 12), .inl (cy 1, 8, .inl (fun _ => 0))), ((ma 13), .inl (cy 1, 8, .inl (fun _ => 0))), ((ma 14), .inl (cy 3, 12, .inl (fun _ => 0))), ((ma 15), .inl (cy 1, 12, .inl (fun _ => 0))), ((ma 16), .inl (cy 1, 12, .inl (fun _ => 0))), ((ma 17), .inl (cy 1, 12, .inl (fun _ => 0))), ((ma 18), .inl (cy 1, 12, .inl (fun _ => 0))), ((ma 19), .inl (cy 3, 12, .inl (fun _ => 0))), ((ma 20), .inl (cy 3, 8, .inl (fun _ => 0))), ((ma 21), .inl (cy 1, 8, .inl (fun _ => 0))), ((ma 22), .inl (cy 1, 8, .inl (fun _ => 0))), ((ma 23), .inl (cy 1, 8, .inl (fun _ => 0))), ((ma 24), .inl (cy 1, 8, .inl (fun _ => 0))), ((ma 33), .inl (cy 1, 600, .inl (fun _ => 0))), ((ma 68), .inl (cy 1, 8, .inl (fun _ => 0))), ((ma 69), .inl (cy 1, 8, .inl (fun _ => 0))), ((ma 70), .inl (cy 1, 8, .inl (fun _ => 0))), ((ma 73), .inl (cy 1, 241, .inl (fun _ => 0))), ((ma 74), .inl (cy 1, 241, .inl (fun _ => 0))), ((ma 75), .inl (cy 1, 241, .inl (upd (fun _ => 0) 0 1))), ((ma 93), .inl (cy 1, 1000, .inl (fun _ => 0))), ((ma 94), .inl (cy 3, 1001, .inl (fun _ => 0))), ((ma 95), .inl (cy 1, 1000, .inl (fun _ => 0))), ((ma 97), .inl (cy 1, 101, .inl (fun _ => 0))), ((ma 98), .inl (cy 1, 101, .inl (fun _ => 0))), ((ma 99), .inl (cy 1, 101, .inl (fun _ => 0))), ((ma 100), .inl (cy 1, 101, .inl (fun _ => 0)))] H := hP
  have hD : va_D A [((ma 200), mo_0 ma), ((ma 11), .inl (cy 3, 8, .inl (fun _ => 0))), ((ma 12), .inl (cy 1, 8, .inl (fun _ => 0))), ((ma 13), .inl (cy 1, 8, .inl (fun _ => 0))), ((ma 14), .inl (cy 3, 12, .inl (fun _ => 0))), ((ma 15), .inl (cy 1, 12, .inl (fun _ => 0))), ((ma 16), .inl (cy 1, 12, .inl (fun _ => 0))), ((ma 17), .inl (cy 1, 12, .inl (fun _ => 0))), ((ma 18), .inl (cy 1, 12, .inl (fun _ => 0))), ((ma 19), .inl (cy 3, 12, .inl (fun _ => 0))), ((ma 20), .inl (cy 3, 8, .inl (fun _ => 0))), ((ma 21), .inl (cy 1, 8, .inl (fun _ => 0))), ((ma 22), .inl (cy 1, 8, .inl (fun _ => 0))), ((ma 23), .inl (cy 1, 8, .inl (fun _ => 0))), ((ma 24), .inl (cy 1, 8, .inl (fun _ => 0))), ((ma 33), .inl (cy 1, 600, .inl (fun _ => 0))), ((ma 68), .inl (cy 1, 8, .inl (fun _ => 0))), ((ma 69), .inl (cy 1, 8, .inl (fun _ => 0))), ((ma 70), .inl (cy 1, 8, .inl (fun _ => 0))), ((ma 73), .inl (cy 1, 241, .inl (fun _ => 0))), ((ma 74), .inl (cy 1, 241, .inl (fun _ => 0))), ((ma 75), .inl (cy 1, 241, .inl (upd (fun _ => 0) 0 1))), ((ma 93), .inl (cy 1, 1000, .inl (fun _ => 0))), ((ma 94), .inl (cy 3, 1001, .inl (fun _ => 0))), ((ma 95), .inl (cy 1, 1000, .inl (fun _ => 0))), ((ma 97), .inl (cy 1, 101, .inl (fun _ => 0))), ((ma 98), .inl (cy 1, 101, .inl (fun _ => 0))), ((ma 99), .inl (cy 1, 101, .inl (fun _ => 0))), ((ma 100), .inl (cy 1, 101, .inl (fun _ => 0)))] := hD
  obtain rfl : r_1 = (-1) := hw
  refine lv_aload_n hx hb dL_law_957 rfl (lv_at hl 1 rfl) ?_
  refine lv_aload_n hx hb dL_law_958 rfl (lv_at hl 3 rfl) ?_
  refine lv_iload_n hx hb dL_law_959 rfl (lv_at hl 0 rfl) ?_
  refine lv_iconst (v := 1) hx hb dL_law_960 (by decide) ?_
  refine lv_iadd hx hb dL_law_961 ?_
  refine gp_ni 1 (by decide) ?_
  refine va_sld hx hb hX hbl hbA hS (by unfold vp_in; decide) dL_law_962 ?_
  refine gp_ni (xs 1) rfl ?_
  refine lv_aload_n hx hb dL_law_963 rfl (lv_at hl 3 rfl) ?_
  refine lv_iload_n hx hb dL_law_964 rfl (lv_at hl 0 rfl) ?_
  refine lv_iconst (v := 2) hx hb dL_law_965 (by decide) ?_
  refine lv_iadd hx hb dL_law_966 ?_
  refine gp_ni 2 (by decide) ?_
  refine va_sld hx hb hX hbl hbA hS (by unfold vp_in; decide) dL_law_967 ?_
  refine gp_ni (xs 2) rfl ?_
  have hPc := hP.sub (ws' := [((ma 200), mo_0 ma), ((ma 11), .inl (cy 3, 8, .inl (fun _ => 0)))]) [0, 1] rfl
  have hDc := hD.sub (ws' := [((ma 200), mo_0 ma), ((ma 11), .inl (cy 3, 8, .inl (fun _ => 0)))]) [0, 1] (by decide) rfl
  have hFc := va_free (wc := [((ma 200), mo_0 ma), ((ma 11), .inl (cy 3, 8, .inl (fun _ => 0)))]) hD hS hA [0, 1] rfl
  refine va_calli (va_runV (As := [.int (xs 1), .int (xs 2)]) (rest := [.int (-1)]) ⟨hx, hb, hml, hown, hts⟩ (kX12_has l D cy H.size ma (xs 1) (xs 2)) (cwV 2 hts gc_kX12_has rfl rfl rfl (by decide +kernel) ⟨Nat.le_of_ble_eq_true rfl, Nat.le_of_ble_eq_true rfl⟩) (gp_preV (RX12, TX12, 104) 12 0 hPc hDc hK hN rfl rfl) rfl rfl hl.1 rfl (lv_room (Nat.le_of_ble_eq_true rfl)) dL_law_968 ⟨Nat.le_of_ble_eq_true rfl, Nat.le_of_ble_eq_true rfl⟩) hS (fun q _ h => hFc q h) hFc (fun r_2 u t H locs ht hvm hw hB hz1 hk1 hS => ?_)
  obtain ⟨hP, hD⟩ := gp_join (wr := []) (w1 := []) hP hD [0, 1] [] rfl rfl (by decide) (by decide) hk1 hFc ht hB
  have hP : va_P D vwCl [] H := hP
  have hD : va_D A [] := hD
  obtain rfl : r_2 = (-1) := hw
  refine lv_icmp_eq (tgt := 1364) hx hb dL_law_971 (by decide) (fun c_3 => ?_) (fun c_3 => absurd (by decide) c_3)
  refine lv_iinc (v := 7) (lv' := [(3, .int 7), (2, .ref (ma 200)), (1, .ref (xa 0)), (0, .ref b)]) hx hb dL_law_1364 hl (k := 0) rfl (by decide) (by decide) rfl (fun ls hl => ?_)
  refine lv_goto (tgt := 18) hx hb dL_law_1367 (by decide) ?_
  refine lv_iload_n hx hb dL_law_18 rfl (lv_at hl 0 rfl) ?_
  refine lv_aload_n hx hb dL_law_19 rfl (lv_at hl 3 rfl) ?_
  refine va_slen hx hb hX hbl hbA hS dL_law_20 ?_
  refine gp_ni 7 rfl ?_
  refine lv_bipush (v := 7) hx hb dL_law_21 (by decide) ?_
  refine lv_isub hx hb dL_law_23 ?_
  refine gp_ni 0 (by decide) ?_
  refine lv_icmp_gt (tgt := 1370) hx hb dL_law_24 (by decide) (fun c_4 => ?_) (fun c_4 => absurd (by decide) c_4)
  refine lv_iconst (v := 1) hx hb dL_law_1370 (by decide) ?_
  refine va_forget (fun q hq => hSA _ (hS.2.2 q hq)) ?_
  refine W.widen (k := 600000) (n := 7302250) (by decide) (by decide) ?_
  exact lw_ret hx hb hr hlocks dL_law_1371

set_option maxHeartbeats 4000000 in
set_option maxRecDepth 100000 in
theorem law_19 {p : Program} {e : Env} {s : State} {m : MethodId} {below : List Frame} {meth : Method} {c : Code} (l : Launch) {b : Nat} {xs : Nat → Int32} (C0 : lw_At p s m meth c b 7 xs) {D : va_G} {cy : Nat → ClassId} (hK : va_K D vwCl (gp_T cy) s) (hN : gp_N s) (xa ma : Nat → Nat) (fO : Nat → Option Nat) (hO : fO 0 = some (xa 6)) {A : Nat → Prop} (hAe : A = (fun q : Nat => s.heap.size ≤ q)) {H : Heap} {locs : List Loc} {ls : Array Slot} (hP : va_P D vwCl (lw_W cy xa ma fO) H) (hD : va_D A (lw_W cy xa ma fO)) (hS : va_S A s.heap H locs) (hl : lv_has ls 4 [(3, .int 0), (2, .ref (ma 200)), (1, .ref (xa 0)), (0, .ref b)]) : W p l e room_1 s m #[Value.ref b] below meth c H locs 153 14835 (lw_Z below #[Value.ref b] s) (F0 m 976 ls []) := by
  obtain ⟨hx, hb, hr, hml, hown, hts, hX, hbl, hlocks, hgv⟩ := id C0
  have hown : s.vm.findClass RL = some m.cls := hown
  have hA : ∀ q : Nat, s.heap.size ≤ q → A q := fun q h => by rw [hAe]; exact h
  have hbA : ¬ A b := by rw [hAe]; exact Nat.not_le.mpr hbl
  have hSA : ∀ q : Nat, A q → s.heap.size ≤ q := fun q h => by rw [hAe] at h; exact h
  refine lv_aload_n hx hb dL_law_976 rfl (lv_at hl 2 rfl) ?_
  refine lv_aload_n hx hb dL_law_977 rfl (lv_at hl 3 rfl) ?_
  refine lv_iload_n hx hb dL_law_978 rfl (lv_at hl 0 rfl) ?_
  refine lv_iconst (v := 1) hx hb dL_law_979 (by decide) ?_
  refine lv_iadd hx hb dL_law_980 ?_
  refine gp_ni 1 (by decide) ?_
  refine va_sld hx hb hX hbl hbA hS (by unfold vp_in; decide) dL_law_981 ?_
  refine gp_ni (xs 1) rfl ?_
  have hPc := hP.sub (ws' := [((xa 0), .inr (11, [.ref (xa 1), .ref (xa 3), .ref (xa 7), .ref (xa 11), .ref (xa 20), .ref (xa 24), .ref (xa 25), .ref (xa 29)])), ((xa 11), .inr (7, [.int (-50), .int 0, .int 50, .int 80, .int (-60), .int (-40), .int 60, .int (-40), .int 0, .int 4, .int 0, .ref (xa 12), .ref (xa 13), .ref (xa 14), .ref (xa 15), .ref (xa 16), .ref (xa 17), .ref (xa 18), .ref (xa 19)])), ((xa 12), .inl (cy 3, 8, .inl (fun _ => 0)))]) [0, 11, 12] rfl
  have hDc := hD.sub (ws' := [((xa 0), .inr (11, [.ref (xa 1), .ref (xa 3), .ref (xa 7), .ref (xa 11), .ref (xa 20), .ref (xa 24), .ref (xa 25), .ref (xa 29)])), ((xa 11), .inr (7, [.int (-50), .int 0, .int 50, .int 80, .int (-60), .int (-40), .int 60, .int (-40), .int 0, .int 4, .int 0, .ref (xa 12), .ref (xa 13), .ref (xa 14), .ref (xa 15), .ref (xa 16), .ref (xa 17), .ref (xa 18), .ref (xa 19)])), ((xa 12), .inl (cy 3, 8, .inl (fun _ => 0)))]) [0, 11, 12] (by decide) rfl
  have hFc := va_free (wc := [((xa 0), .inr (11, [.ref (xa 1), .ref (xa 3), .ref (xa 7), .ref (xa 11), .ref (xa 20), .ref (xa 24), .ref (xa 25), .ref (xa 29)])), ((xa 11), .inr (7, [.int (-50), .int 0, .int 50, .int 80, .int (-60), .int (-40), .int 60, .int (-40), .int 0, .int 4, .int 0, .ref (xa 12), .ref (xa 13), .ref (xa 14), .ref (xa 15), .ref (xa 16), .ref (xa 17), .ref (xa 18), .ref (xa 19)])), ((xa 12), .inl (cy 3, 8, .inl (fun _ => 0)))]) hD hS hA [0, 11, 12] rfl
  refine va_calli (va_runV (As := [.int (xs 1)]) (rest := []) ⟨hx, hb, hml, hown, hts⟩ (kX11_counts l D cy H.size xa (xs 1)) (cwV 1 hts gc_kX11_counts rfl rfl rfl (by decide +kernel) ⟨Nat.le_of_ble_eq_true rfl, Nat.le_of_ble_eq_true rfl⟩) (gp_preV (RX11, TX11, 8) 11 0 hPc hDc hK hN rfl rfl) rfl rfl hl.1 rfl (lv_room (Nat.le_of_ble_eq_true rfl)) dL_law_982 ⟨Nat.le_of_ble_eq_true rfl, Nat.le_of_ble_eq_true rfl⟩) hS (fun q _ h => hFc q h) hFc (fun r_1 u t H locs ht hvm hw hB hz1 hk1 hS => ?_)
  obtain ⟨hP, hD⟩ := gp_join (wr := [((ma 200), mo_0 ma), ((ma 11), .inl (cy 3, 8, .inl (fun _ => 0))), ((ma 12), .inl (cy 1, 8, .inl (fun _ => 0))), ((ma 13), .inl (cy 1, 8, .inl (fun _ => 0))), ((ma 14), .inl (cy 3, 12, .inl (fun _ => 0))), ((ma 15), .inl (cy 1, 12, .inl (fun _ => 0))), ((ma 16), .inl (cy 1, 12, .inl (fun _ => 0))), ((ma 17), .inl (cy 1, 12, .inl (fun _ => 0))), ((ma 18), .inl (cy 1, 12, .inl (fun _ => 0))), ((ma 19), .inl (cy 3, 12, .inl (fun _ => 0))), ((ma 20), .inl (cy 3, 8, .inl (fun _ => 0))), ((ma 21), .inl (cy 1, 8, .inl (fun _ => 0))), ((ma 22), .inl (cy 1, 8, .inl (fun _ => 0))), ((ma 23), .inl (cy 1, 8, .inl (fun _ => 0))), ((ma 24), .inl (cy 1, 8, .inl (fun _ => 0))), ((ma 33), .inl (cy 1, 600, .inl (fun _ => 0))), ((ma 68), .inl (cy 1, 8, .inl (fun _ => 0))), ((ma 69), .inl (cy 1, 8, .inl (fun _ => 0))), ((ma 70), .inl (cy 1, 8, .inl (fun _ => 0))), ((ma 73), .inl (cy 1, 241, .inl (fun _ => 0))), ((ma 74), .inl (cy 1, 241, .inl (fun _ => 0))), ((ma 75), .inl (cy 1, 241, .inl (upd (fun _ => 0) 0 1))), ((ma 93), .inl (cy 1, 1000, .inl (fun _ => 0))), ((ma 94), .inl (cy 3, 1001, .inl (fun _ => 0))), ((ma 95), .inl (cy 1, 1000, .inl (fun _ => 0))), ((ma 97), .inl (cy 1, 101, .inl (fun _ => 0))), ((ma 98), .inl (cy 1, 101, .inl (fun _ => 0))), ((ma 99), .inl (cy 1, 101, .inl (fun _ => 0))), ((ma 100), .inl (cy 1, 101, .inl (fun _ => 0)))]) (w1 := []) hP hD [0, 11, 12] [67, 68, 69, 70, 71, 72, 73, 74, 75, 76, 77, 78, 79, 80, 81, 82, 83, 84, 85, 86, 87, 88, 89, 90, 91, 92, 93, 94, 95] rfl rfl (by decide) (by decide) hk1 hFc ht hB
  have hP : va_P D vwCl [((ma 200), mo_0 ma), ((ma 11), .inl (cy 3, 8, .inl (fun _ => 0))), ((ma 12), .inl (cy 1, 8, .inl (fun _ => 0))), ((ma 13), .inl (cy 1, 8, .inl (fun _ => 0))), ((ma 14), .inl (cy 3, 12, .inl (fun _ => 0))), ((ma 15), .inl (cy 1, 12, .inl (fun _ => 0))), ((ma 16), .inl (cy 1, 12, .inl (fun _ => 0))), ((ma 17), .inl (cy 1, 12, .inl (fun _ => 0))), ((ma 18), .inl (cy 1, 12, .inl (fun _ => 0))), ((ma 19), .inl (cy 3, 12, .inl (fun _ => 0))), ((ma 20), .inl (cy 3, 8, .inl (fun _ => 0))), ((ma 21), .inl (cy 1, 8, .inl (fun _ => 0))), ((ma 22), .inl (cy 1, 8, .inl (fun _ => 0))), ((ma 23), .inl (cy 1, 8, .inl (fun _ => 0))), ((ma 24), .inl (cy 1, 8, .inl (fun _ => 0))), ((ma 33), .inl (cy 1, 600, .inl (fun _ => 0))), ((ma 68), .inl (cy 1, 8, .inl (fun _ => 0))), ((ma 69), .inl (cy 1, 8, .inl (fun _ => 0))), ((ma 70), .inl (cy 1, 8, .inl (fun _ => 0))), ((ma 73), .inl (cy 1, 241, .inl (fun _ => 0))), ((ma 74), .inl (cy 1, 241, .inl (fun _ => 0))), ((ma 75), .inl (cy 1, 241, .inl (upd (fun _ => 0) 0 1))), ((ma 93), .inl (cy 1, 1000, .inl (fun _ => 0))), ((ma 94), .inl (cy 3, 1001, .inl (fun _ => 0))), ((ma 95), .inl (cy 1, 1000, .inl (fun _ => 0))), ((ma 97), .inl (cy 1, 101, .inl (fun _ => 0))), ((ma 98), .inl (cy 1, 101, .inl (fun _ => 0))), ((ma 99), .inl (cy 1, 101, .inl (fun _ => 0))), ((ma 100), .inl (cy 1, 101, .inl (fun _ => 0)))] H := hP
  have hD : va_D A [((ma 200), mo_0 ma), ((ma 11), .inl (cy 3, 8, .inl (fun _ => 0))), ((ma 12), .inl (cy 1, 8, .inl (fun _ => 0))), ((ma 13), .inl (cy 1, 8, .inl (fun _ => 0))), ((ma 14), .inl (cy 3, 12, .inl (fun _ => 0))), ((ma 15), .inl (cy 1, 12, .inl (fun _ => 0))), ((ma 16), .inl (cy 1, 12, .inl (fun _ => 0))), ((ma 17), .inl (cy 1, 12, .inl (fun _ => 0))), ((ma 18), .inl (cy 1, 12, .inl (fun _ => 0))), ((ma 19), .inl (cy 3, 12, .inl (fun _ => 0))), ((ma 20), .inl (cy 3, 8, .inl (fun _ => 0))), ((ma 21), .inl (cy 1, 8, .inl (fun _ => 0))), ((ma 22), .inl (cy 1, 8, .inl (fun _ => 0))), ((ma 23), .inl (cy 1, 8, .inl (fun _ => 0))), ((ma 24), .inl (cy 1, 8, .inl (fun _ => 0))), ((ma 33), .inl (cy 1, 600, .inl (fun _ => 0))), ((ma 68), .inl (cy 1, 8, .inl (fun _ => 0))), ((ma 69), .inl (cy 1, 8, .inl (fun _ => 0))), ((ma 70), .inl (cy 1, 8, .inl (fun _ => 0))), ((ma 73), .inl (cy 1, 241, .inl (fun _ => 0))), ((ma 74), .inl (cy 1, 241, .inl (fun _ => 0))), ((ma 75), .inl (cy 1, 241, .inl (upd (fun _ => 0) 0 1))), ((ma 93), .inl (cy 1, 1000, .inl (fun _ => 0))), ((ma 94), .inl (cy 3, 1001, .inl (fun _ => 0))), ((ma 95), .inl (cy 1, 1000, .inl (fun _ => 0))), ((ma 97), .inl (cy 1, 101, .inl (fun _ => 0))), ((ma 98), .inl (cy 1, 101, .inl (fun _ => 0))), ((ma 99), .inl (cy 1, 101, .inl (fun _ => 0))), ((ma 100), .inl (cy 1, 101, .inl (fun _ => 0)))] := hD
  obtain rfl : r_1 = (-1) := hw
  refine lv_aload_n hx hb dL_law_985 rfl (lv_at hl 1 rfl) ?_
  refine lv_aload_n hx hb dL_law_986 rfl (lv_at hl 3 rfl) ?_
  refine lv_iload_n hx hb dL_law_987 rfl (lv_at hl 0 rfl) ?_
  refine lv_iconst (v := 1) hx hb dL_law_988 (by decide) ?_
  refine lv_iadd hx hb dL_law_989 ?_
  refine gp_ni 1 (by decide) ?_
  refine va_sld hx hb hX hbl hbA hS (by unfold vp_in; decide) dL_law_990 ?_
  refine gp_ni (xs 1) rfl ?_
  have hPc := hP.sub (ws' := [((ma 200), mo_0 ma), ((ma 11), .inl (cy 3, 8, .inl (fun _ => 0)))]) [0, 1] rfl
  have hDc := hD.sub (ws' := [((ma 200), mo_0 ma), ((ma 11), .inl (cy 3, 8, .inl (fun _ => 0)))]) [0, 1] (by decide) rfl
  have hFc := va_free (wc := [((ma 200), mo_0 ma), ((ma 11), .inl (cy 3, 8, .inl (fun _ => 0)))]) hD hS hA [0, 1] rfl
  refine va_calli (va_runV (As := [.int (xs 1)]) (rest := [.int (-1)]) ⟨hx, hb, hml, hown, hts⟩ (kX12_counts l D cy H.size ma (xs 1)) (cwV 1 hts gc_kX12_counts rfl rfl rfl (by decide +kernel) ⟨Nat.le_of_ble_eq_true rfl, Nat.le_of_ble_eq_true rfl⟩) (gp_preV (RX12, TX12, 104) 12 0 hPc hDc hK hN rfl rfl) rfl rfl hl.1 rfl (lv_room (Nat.le_of_ble_eq_true rfl)) dL_law_991 ⟨Nat.le_of_ble_eq_true rfl, Nat.le_of_ble_eq_true rfl⟩) hS (fun q _ h => hFc q h) hFc (fun r_2 u t H locs ht hvm hw hB hz1 hk1 hS => ?_)
  obtain ⟨hP, hD⟩ := gp_join (wr := []) (w1 := []) hP hD [0, 1] [] rfl rfl (by decide) (by decide) hk1 hFc ht hB
  have hP : va_P D vwCl [] H := hP
  have hD : va_D A [] := hD
  obtain rfl : r_2 = (-1) := hw
  refine lv_icmp_eq (tgt := 1364) hx hb dL_law_994 (by decide) (fun c_3 => ?_) (fun c_3 => absurd (by decide) c_3)
  refine lv_iinc (v := 7) (lv' := [(3, .int 7), (2, .ref (ma 200)), (1, .ref (xa 0)), (0, .ref b)]) hx hb dL_law_1364 hl (k := 0) rfl (by decide) (by decide) rfl (fun ls hl => ?_)
  refine lv_goto (tgt := 18) hx hb dL_law_1367 (by decide) ?_
  refine lv_iload_n hx hb dL_law_18 rfl (lv_at hl 0 rfl) ?_
  refine lv_aload_n hx hb dL_law_19 rfl (lv_at hl 3 rfl) ?_
  refine va_slen hx hb hX hbl hbA hS dL_law_20 ?_
  refine gp_ni 7 rfl ?_
  refine lv_bipush (v := 7) hx hb dL_law_21 (by decide) ?_
  refine lv_isub hx hb dL_law_23 ?_
  refine gp_ni 0 (by decide) ?_
  refine lv_icmp_gt (tgt := 1370) hx hb dL_law_24 (by decide) (fun c_4 => ?_) (fun c_4 => absurd (by decide) c_4)
  refine lv_iconst (v := 1) hx hb dL_law_1370 (by decide) ?_
  refine va_forget (fun q hq => hSA _ (hS.2.2 q hq)) ?_
  refine W.widen (k := 600000) (n := 7302250) (by decide) (by decide) ?_
  exact lw_ret hx hb hr hlocks dL_law_1371

set_option maxHeartbeats 4000000 in
set_option maxRecDepth 100000 in
theorem law_20 {p : Program} {e : Env} {s : State} {m : MethodId} {below : List Frame} {meth : Method} {c : Code} (l : Launch) {b : Nat} {xs : Nat → Int32} (C0 : lw_At p s m meth c b 7 xs) {D : va_G} {cy : Nat → ClassId} (hK : va_K D vwCl (gp_T cy) s) (hN : gp_N s) (xa ma : Nat → Nat) (fO : Nat → Option Nat) (hO : fO 0 = some (xa 6)) {A : Nat → Prop} (hAe : A = (fun q : Nat => s.heap.size ≤ q)) {H : Heap} {locs : List Loc} {ls : Array Slot} (hP : va_P D vwCl (lw_W cy xa ma fO) H) (hD : va_D A (lw_W cy xa ma fO)) (hS : va_S A s.heap H locs) (hl : lv_has ls 4 [(3, .int 0), (2, .ref (ma 200)), (1, .ref (xa 0)), (0, .ref b)]) : W p l e room_1 s m #[Value.ref b] below meth c H locs 153 14835 (lw_Z below #[Value.ref b] s) (F0 m 999 ls []) := by
  obtain ⟨hx, hb, hr, hml, hown, hts, hX, hbl, hlocks, hgv⟩ := id C0
  have hown : s.vm.findClass RL = some m.cls := hown
  have hA : ∀ q : Nat, s.heap.size ≤ q → A q := fun q h => by rw [hAe]; exact h
  have hbA : ¬ A b := by rw [hAe]; exact Nat.not_le.mpr hbl
  have hSA : ∀ q : Nat, A q → s.heap.size ≤ q := fun q h => by rw [hAe] at h; exact h
  refine lv_aload_n hx hb dL_law_999 rfl (lv_at hl 2 rfl) ?_
  have hPc := hP.sub (ws' := [((xa 0), .inr (11, [.ref (xa 1), .ref (xa 3), .ref (xa 7), .ref (xa 11), .ref (xa 20), .ref (xa 24), .ref (xa 25), .ref (xa 29)])), ((xa 7), .inr (10, [.int 0, .ref (xa 8), .ref (xa 9), .ref (xa 10), .ref (xa 42), .ref (xa 43), .int 0])), ((xa 8), .inl (cy 1, 241, .inl (fun _ => 0))), ((xa 9), .inl (cy 1, 241, .inl (fun _ => 0))), ((xa 10), .inl (cy 3, 241, .inl (upd (fun _ => 0) 0 1))), ((xa 11), .inr (7, [.int (-50), .int 0, .int 50, .int 80, .int (-60), .int (-40), .int 60, .int (-40), .int 0, .int 4, .int 0, .ref (xa 12), .ref (xa 13), .ref (xa 14), .ref (xa 15), .ref (xa 16), .ref (xa 17), .ref (xa 18), .ref (xa 19)])), ((xa 12), .inl (cy 3, 8, .inl (fun _ => 0))), ((xa 15), .inl (cy 3, 12, .inl (fun _ => 0))), ((xa 16), .inl (cy 6, 12, .inr (.inr (.inr (.inr (fun i => if i < 12 then some (xa (100 + i)) else none)))))), ((xa 17), .inl (cy 3, 12, .inl (fun _ => 0))), ((xa 18), .inl (cy 3, 8, .inl (fun _ => 0))), ((xa 20), .inr (8, [.ref (xa 21), .int 0, .int 0, .int 0, .ref (xa 11), .ref (xa 7)])), ((xa 21), .inr (3, [.long 0, .int 0, .ref (xa 22), .ref (xa 23), .long 0, .long 0, .long 0, .long 0, .long 0, .long 0, .long 0, .long 0, .long 0, .long 0, .long 0, .long 0])), ((xa 22), .inl (cy 7, 12, .inr (.inr (.inr (.inr (fun i => if i < 12 then some (xa (140 + i)) else none)))))), ((xa 23), .inl (cy 3, 12, .inl (fun _ => 0))), ((xa 100), .inl (cy 1, 4, .inl (fun _ => 0))), ((xa 101), .inl (cy 1, 4, .inl (fun _ => 0))), ((xa 102), .inl (cy 1, 4, .inl (fun _ => 0))), ((xa 103), .inl (cy 1, 4, .inl (fun _ => 0))), ((xa 104), .inl (cy 1, 4, .inl (fun _ => 0))), ((xa 105), .inl (cy 1, 4, .inl (fun _ => 0))), ((xa 106), .inl (cy 1, 4, .inl (fun _ => 0))), ((xa 107), .inl (cy 1, 4, .inl (fun _ => 0))), ((xa 108), .inl (cy 1, 4, .inl (fun _ => 0))), ((xa 109), .inl (cy 1, 4, .inl (fun _ => 0))), ((xa 110), .inl (cy 1, 4, .inl (fun _ => 0))), ((xa 111), .inl (cy 1, 4, .inl (fun _ => 0))), ((xa 140), .inl (cy 2, 4, .inr (.inl (fun _ => 0)))), ((xa 141), .inl (cy 2, 4, .inr (.inl (fun _ => 0)))), ((xa 142), .inl (cy 2, 4, .inr (.inl (fun _ => 0)))), ((xa 143), .inl (cy 2, 4, .inr (.inl (fun _ => 0)))), ((xa 144), .inl (cy 2, 4, .inr (.inl (fun _ => 0)))), ((xa 145), .inl (cy 2, 4, .inr (.inl (fun _ => 0)))), ((xa 146), .inl (cy 2, 4, .inr (.inl (fun _ => 0)))), ((xa 147), .inl (cy 2, 4, .inr (.inl (fun _ => 0)))), ((xa 148), .inl (cy 2, 4, .inr (.inl (fun _ => 0)))), ((xa 149), .inl (cy 2, 4, .inr (.inl (fun _ => 0)))), ((xa 150), .inl (cy 2, 4, .inr (.inl (fun _ => 0)))), ((xa 151), .inl (cy 2, 4, .inr (.inl (fun _ => 0))))]) [0, 7, 8, 9, 10, 11, 12, 15, 16, 17, 18, 20, 21, 22, 23, 35, 36, 37, 38, 39, 40, 41, 42, 43, 44, 45, 46, 55, 56, 57, 58, 59, 60, 61, 62, 63, 64, 65, 66] rfl
  have hDc := hD.sub (ws' := [((xa 0), .inr (11, [.ref (xa 1), .ref (xa 3), .ref (xa 7), .ref (xa 11), .ref (xa 20), .ref (xa 24), .ref (xa 25), .ref (xa 29)])), ((xa 7), .inr (10, [.int 0, .ref (xa 8), .ref (xa 9), .ref (xa 10), .ref (xa 42), .ref (xa 43), .int 0])), ((xa 8), .inl (cy 1, 241, .inl (fun _ => 0))), ((xa 9), .inl (cy 1, 241, .inl (fun _ => 0))), ((xa 10), .inl (cy 3, 241, .inl (upd (fun _ => 0) 0 1))), ((xa 11), .inr (7, [.int (-50), .int 0, .int 50, .int 80, .int (-60), .int (-40), .int 60, .int (-40), .int 0, .int 4, .int 0, .ref (xa 12), .ref (xa 13), .ref (xa 14), .ref (xa 15), .ref (xa 16), .ref (xa 17), .ref (xa 18), .ref (xa 19)])), ((xa 12), .inl (cy 3, 8, .inl (fun _ => 0))), ((xa 15), .inl (cy 3, 12, .inl (fun _ => 0))), ((xa 16), .inl (cy 6, 12, .inr (.inr (.inr (.inr (fun i => if i < 12 then some (xa (100 + i)) else none)))))), ((xa 17), .inl (cy 3, 12, .inl (fun _ => 0))), ((xa 18), .inl (cy 3, 8, .inl (fun _ => 0))), ((xa 20), .inr (8, [.ref (xa 21), .int 0, .int 0, .int 0, .ref (xa 11), .ref (xa 7)])), ((xa 21), .inr (3, [.long 0, .int 0, .ref (xa 22), .ref (xa 23), .long 0, .long 0, .long 0, .long 0, .long 0, .long 0, .long 0, .long 0, .long 0, .long 0, .long 0, .long 0])), ((xa 22), .inl (cy 7, 12, .inr (.inr (.inr (.inr (fun i => if i < 12 then some (xa (140 + i)) else none)))))), ((xa 23), .inl (cy 3, 12, .inl (fun _ => 0))), ((xa 100), .inl (cy 1, 4, .inl (fun _ => 0))), ((xa 101), .inl (cy 1, 4, .inl (fun _ => 0))), ((xa 102), .inl (cy 1, 4, .inl (fun _ => 0))), ((xa 103), .inl (cy 1, 4, .inl (fun _ => 0))), ((xa 104), .inl (cy 1, 4, .inl (fun _ => 0))), ((xa 105), .inl (cy 1, 4, .inl (fun _ => 0))), ((xa 106), .inl (cy 1, 4, .inl (fun _ => 0))), ((xa 107), .inl (cy 1, 4, .inl (fun _ => 0))), ((xa 108), .inl (cy 1, 4, .inl (fun _ => 0))), ((xa 109), .inl (cy 1, 4, .inl (fun _ => 0))), ((xa 110), .inl (cy 1, 4, .inl (fun _ => 0))), ((xa 111), .inl (cy 1, 4, .inl (fun _ => 0))), ((xa 140), .inl (cy 2, 4, .inr (.inl (fun _ => 0)))), ((xa 141), .inl (cy 2, 4, .inr (.inl (fun _ => 0)))), ((xa 142), .inl (cy 2, 4, .inr (.inl (fun _ => 0)))), ((xa 143), .inl (cy 2, 4, .inr (.inl (fun _ => 0)))), ((xa 144), .inl (cy 2, 4, .inr (.inl (fun _ => 0)))), ((xa 145), .inl (cy 2, 4, .inr (.inl (fun _ => 0)))), ((xa 146), .inl (cy 2, 4, .inr (.inl (fun _ => 0)))), ((xa 147), .inl (cy 2, 4, .inr (.inl (fun _ => 0)))), ((xa 148), .inl (cy 2, 4, .inr (.inl (fun _ => 0)))), ((xa 149), .inl (cy 2, 4, .inr (.inl (fun _ => 0)))), ((xa 150), .inl (cy 2, 4, .inr (.inl (fun _ => 0)))), ((xa 151), .inl (cy 2, 4, .inr (.inl (fun _ => 0))))]) [0, 7, 8, 9, 10, 11, 12, 15, 16, 17, 18, 20, 21, 22, 23, 35, 36, 37, 38, 39, 40, 41, 42, 43, 44, 45, 46, 55, 56, 57, 58, 59, 60, 61, 62, 63, 64, 65, 66] (by decide) rfl
  have hFc := va_free (wc := [((xa 0), .inr (11, [.ref (xa 1), .ref (xa 3), .ref (xa 7), .ref (xa 11), .ref (xa 20), .ref (xa 24), .ref (xa 25), .ref (xa 29)])), ((xa 7), .inr (10, [.int 0, .ref (xa 8), .ref (xa 9), .ref (xa 10), .ref (xa 42), .ref (xa 43), .int 0])), ((xa 8), .inl (cy 1, 241, .inl (fun _ => 0))), ((xa 9), .inl (cy 1, 241, .inl (fun _ => 0))), ((xa 10), .inl (cy 3, 241, .inl (upd (fun _ => 0) 0 1))), ((xa 11), .inr (7, [.int (-50), .int 0, .int 50, .int 80, .int (-60), .int (-40), .int 60, .int (-40), .int 0, .int 4, .int 0, .ref (xa 12), .ref (xa 13), .ref (xa 14), .ref (xa 15), .ref (xa 16), .ref (xa 17), .ref (xa 18), .ref (xa 19)])), ((xa 12), .inl (cy 3, 8, .inl (fun _ => 0))), ((xa 15), .inl (cy 3, 12, .inl (fun _ => 0))), ((xa 16), .inl (cy 6, 12, .inr (.inr (.inr (.inr (fun i => if i < 12 then some (xa (100 + i)) else none)))))), ((xa 17), .inl (cy 3, 12, .inl (fun _ => 0))), ((xa 18), .inl (cy 3, 8, .inl (fun _ => 0))), ((xa 20), .inr (8, [.ref (xa 21), .int 0, .int 0, .int 0, .ref (xa 11), .ref (xa 7)])), ((xa 21), .inr (3, [.long 0, .int 0, .ref (xa 22), .ref (xa 23), .long 0, .long 0, .long 0, .long 0, .long 0, .long 0, .long 0, .long 0, .long 0, .long 0, .long 0, .long 0])), ((xa 22), .inl (cy 7, 12, .inr (.inr (.inr (.inr (fun i => if i < 12 then some (xa (140 + i)) else none)))))), ((xa 23), .inl (cy 3, 12, .inl (fun _ => 0))), ((xa 100), .inl (cy 1, 4, .inl (fun _ => 0))), ((xa 101), .inl (cy 1, 4, .inl (fun _ => 0))), ((xa 102), .inl (cy 1, 4, .inl (fun _ => 0))), ((xa 103), .inl (cy 1, 4, .inl (fun _ => 0))), ((xa 104), .inl (cy 1, 4, .inl (fun _ => 0))), ((xa 105), .inl (cy 1, 4, .inl (fun _ => 0))), ((xa 106), .inl (cy 1, 4, .inl (fun _ => 0))), ((xa 107), .inl (cy 1, 4, .inl (fun _ => 0))), ((xa 108), .inl (cy 1, 4, .inl (fun _ => 0))), ((xa 109), .inl (cy 1, 4, .inl (fun _ => 0))), ((xa 110), .inl (cy 1, 4, .inl (fun _ => 0))), ((xa 111), .inl (cy 1, 4, .inl (fun _ => 0))), ((xa 140), .inl (cy 2, 4, .inr (.inl (fun _ => 0)))), ((xa 141), .inl (cy 2, 4, .inr (.inl (fun _ => 0)))), ((xa 142), .inl (cy 2, 4, .inr (.inl (fun _ => 0)))), ((xa 143), .inl (cy 2, 4, .inr (.inl (fun _ => 0)))), ((xa 144), .inl (cy 2, 4, .inr (.inl (fun _ => 0)))), ((xa 145), .inl (cy 2, 4, .inr (.inl (fun _ => 0)))), ((xa 146), .inl (cy 2, 4, .inr (.inl (fun _ => 0)))), ((xa 147), .inl (cy 2, 4, .inr (.inl (fun _ => 0)))), ((xa 148), .inl (cy 2, 4, .inr (.inl (fun _ => 0)))), ((xa 149), .inl (cy 2, 4, .inr (.inl (fun _ => 0)))), ((xa 150), .inl (cy 2, 4, .inr (.inl (fun _ => 0)))), ((xa 151), .inl (cy 2, 4, .inr (.inl (fun _ => 0))))]) hD hS hA [0, 7, 8, 9, 10, 11, 12, 15, 16, 17, 18, 20, 21, 22, 23, 35, 36, 37, 38, 39, 40, 41, 42, 43, 44, 45, 46, 55, 56, 57, 58, 59, 60, 61, 62, 63, 64, 65, 66] rfl
  refine va_calli (va_runV (As := []) (rest := []) ⟨hx, hb, hml, hown, hts⟩ (kX11_house l D cy H.size xa) (cwV 0 hts gc_kX11_house rfl rfl rfl (by decide +kernel) ⟨Nat.le_of_ble_eq_true rfl, Nat.le_of_ble_eq_true rfl⟩) (gp_preV (RX11, TX11, 8) 11 0 hPc hDc hK hN rfl rfl) rfl rfl hl.1 rfl (lv_room (Nat.le_of_ble_eq_true rfl)) dL_law_1000 ⟨Nat.le_of_ble_eq_true rfl, Nat.le_of_ble_eq_true rfl⟩) hS (fun q _ h => hFc q h) hFc (fun r_1 u t H locs ht hvm hw hB hz1 hk1 hS => ?_)
  obtain ⟨hP, hD⟩ := gp_join (wr := [((ma 200), mo_0 ma), ((ma 11), .inl (cy 3, 8, .inl (fun _ => 0))), ((ma 12), .inl (cy 1, 8, .inl (fun _ => 0))), ((ma 13), .inl (cy 1, 8, .inl (fun _ => 0))), ((ma 14), .inl (cy 3, 12, .inl (fun _ => 0))), ((ma 15), .inl (cy 1, 12, .inl (fun _ => 0))), ((ma 16), .inl (cy 1, 12, .inl (fun _ => 0))), ((ma 17), .inl (cy 1, 12, .inl (fun _ => 0))), ((ma 18), .inl (cy 1, 12, .inl (fun _ => 0))), ((ma 19), .inl (cy 3, 12, .inl (fun _ => 0))), ((ma 20), .inl (cy 3, 8, .inl (fun _ => 0))), ((ma 21), .inl (cy 1, 8, .inl (fun _ => 0))), ((ma 22), .inl (cy 1, 8, .inl (fun _ => 0))), ((ma 23), .inl (cy 1, 8, .inl (fun _ => 0))), ((ma 24), .inl (cy 1, 8, .inl (fun _ => 0))), ((ma 33), .inl (cy 1, 600, .inl (fun _ => 0))), ((ma 68), .inl (cy 1, 8, .inl (fun _ => 0))), ((ma 69), .inl (cy 1, 8, .inl (fun _ => 0))), ((ma 70), .inl (cy 1, 8, .inl (fun _ => 0))), ((ma 73), .inl (cy 1, 241, .inl (fun _ => 0))), ((ma 74), .inl (cy 1, 241, .inl (fun _ => 0))), ((ma 75), .inl (cy 1, 241, .inl (upd (fun _ => 0) 0 1))), ((ma 93), .inl (cy 1, 1000, .inl (fun _ => 0))), ((ma 94), .inl (cy 3, 1001, .inl (fun _ => 0))), ((ma 95), .inl (cy 1, 1000, .inl (fun _ => 0))), ((ma 97), .inl (cy 1, 101, .inl (fun _ => 0))), ((ma 98), .inl (cy 1, 101, .inl (fun _ => 0))), ((ma 99), .inl (cy 1, 101, .inl (fun _ => 0))), ((ma 100), .inl (cy 1, 101, .inl (fun _ => 0)))]) (w1 := []) hP hD [0, 7, 8, 9, 10, 11, 12, 15, 16, 17, 18, 20, 21, 22, 23, 35, 36, 37, 38, 39, 40, 41, 42, 43, 44, 45, 46, 55, 56, 57, 58, 59, 60, 61, 62, 63, 64, 65, 66] [67, 68, 69, 70, 71, 72, 73, 74, 75, 76, 77, 78, 79, 80, 81, 82, 83, 84, 85, 86, 87, 88, 89, 90, 91, 92, 93, 94, 95] rfl rfl (by decide) (by decide) hk1 hFc ht hB
  have hP : va_P D vwCl [((ma 200), mo_0 ma), ((ma 11), .inl (cy 3, 8, .inl (fun _ => 0))), ((ma 12), .inl (cy 1, 8, .inl (fun _ => 0))), ((ma 13), .inl (cy 1, 8, .inl (fun _ => 0))), ((ma 14), .inl (cy 3, 12, .inl (fun _ => 0))), ((ma 15), .inl (cy 1, 12, .inl (fun _ => 0))), ((ma 16), .inl (cy 1, 12, .inl (fun _ => 0))), ((ma 17), .inl (cy 1, 12, .inl (fun _ => 0))), ((ma 18), .inl (cy 1, 12, .inl (fun _ => 0))), ((ma 19), .inl (cy 3, 12, .inl (fun _ => 0))), ((ma 20), .inl (cy 3, 8, .inl (fun _ => 0))), ((ma 21), .inl (cy 1, 8, .inl (fun _ => 0))), ((ma 22), .inl (cy 1, 8, .inl (fun _ => 0))), ((ma 23), .inl (cy 1, 8, .inl (fun _ => 0))), ((ma 24), .inl (cy 1, 8, .inl (fun _ => 0))), ((ma 33), .inl (cy 1, 600, .inl (fun _ => 0))), ((ma 68), .inl (cy 1, 8, .inl (fun _ => 0))), ((ma 69), .inl (cy 1, 8, .inl (fun _ => 0))), ((ma 70), .inl (cy 1, 8, .inl (fun _ => 0))), ((ma 73), .inl (cy 1, 241, .inl (fun _ => 0))), ((ma 74), .inl (cy 1, 241, .inl (fun _ => 0))), ((ma 75), .inl (cy 1, 241, .inl (upd (fun _ => 0) 0 1))), ((ma 93), .inl (cy 1, 1000, .inl (fun _ => 0))), ((ma 94), .inl (cy 3, 1001, .inl (fun _ => 0))), ((ma 95), .inl (cy 1, 1000, .inl (fun _ => 0))), ((ma 97), .inl (cy 1, 101, .inl (fun _ => 0))), ((ma 98), .inl (cy 1, 101, .inl (fun _ => 0))), ((ma 99), .inl (cy 1, 101, .inl (fun _ => 0))), ((ma 100), .inl (cy 1, 101, .inl (fun _ => 0)))] H := hP
  have hD : va_D A [((ma 200), mo_0 ma), ((ma 11), .inl (cy 3, 8, .inl (fun _ => 0))), ((ma 12), .inl (cy 1, 8, .inl (fun _ => 0))), ((ma 13), .inl (cy 1, 8, .inl (fun _ => 0))), ((ma 14), .inl (cy 3, 12, .inl (fun _ => 0))), ((ma 15), .inl (cy 1, 12, .inl (fun _ => 0))), ((ma 16), .inl (cy 1, 12, .inl (fun _ => 0))), ((ma 17), .inl (cy 1, 12, .inl (fun _ => 0))), ((ma 18), .inl (cy 1, 12, .inl (fun _ => 0))), ((ma 19), .inl (cy 3, 12, .inl (fun _ => 0))), ((ma 20), .inl (cy 3, 8, .inl (fun _ => 0))), ((ma 21), .inl (cy 1, 8, .inl (fun _ => 0))), ((ma 22), .inl (cy 1, 8, .inl (fun _ => 0))), ((ma 23), .inl (cy 1, 8, .inl (fun _ => 0))), ((ma 24), .inl (cy 1, 8, .inl (fun _ => 0))), ((ma 33), .inl (cy 1, 600, .inl (fun _ => 0))), ((ma 68), .inl (cy 1, 8, .inl (fun _ => 0))), ((ma 69), .inl (cy 1, 8, .inl (fun _ => 0))), ((ma 70), .inl (cy 1, 8, .inl (fun _ => 0))), ((ma 73), .inl (cy 1, 241, .inl (fun _ => 0))), ((ma 74), .inl (cy 1, 241, .inl (fun _ => 0))), ((ma 75), .inl (cy 1, 241, .inl (upd (fun _ => 0) 0 1))), ((ma 93), .inl (cy 1, 1000, .inl (fun _ => 0))), ((ma 94), .inl (cy 3, 1001, .inl (fun _ => 0))), ((ma 95), .inl (cy 1, 1000, .inl (fun _ => 0))), ((ma 97), .inl (cy 1, 101, .inl (fun _ => 0))), ((ma 98), .inl (cy 1, 101, .inl (fun _ => 0))), ((ma 99), .inl (cy 1, 101, .inl (fun _ => 0))), ((ma 100), .inl (cy 1, 101, .inl (fun _ => 0)))] := hD
  obtain rfl : r_1 = 0 := hw
  refine lv_aload_n hx hb dL_law_1003 rfl (lv_at hl 1 rfl) ?_
  have hPc := hP.sub (ws' := [((ma 200), mo_0 ma), ((ma 11), .inl (cy 3, 8, .inl (fun _ => 0)))]) [0, 1] rfl
  have hDc := hD.sub (ws' := [((ma 200), mo_0 ma), ((ma 11), .inl (cy 3, 8, .inl (fun _ => 0)))]) [0, 1] (by decide) rfl
  have hFc := va_free (wc := [((ma 200), mo_0 ma), ((ma 11), .inl (cy 3, 8, .inl (fun _ => 0)))]) hD hS hA [0, 1] rfl
  refine va_calli (va_runV (As := []) (rest := [.int 0]) ⟨hx, hb, hml, hown, hts⟩ (kX12_house l D cy H.size ma) (cwV 0 hts gc_kX12_house rfl rfl rfl (by decide +kernel) ⟨Nat.le_of_ble_eq_true rfl, Nat.le_of_ble_eq_true rfl⟩) (gp_preV (RX12, TX12, 104) 12 0 hPc hDc hK hN rfl rfl) rfl rfl hl.1 rfl (lv_room (Nat.le_of_ble_eq_true rfl)) dL_law_1004 ⟨Nat.le_of_ble_eq_true rfl, Nat.le_of_ble_eq_true rfl⟩) hS (fun q _ h => hFc q h) hFc (fun r_2 u t H locs ht hvm hw hB hz1 hk1 hS => ?_)
  obtain ⟨hP, hD⟩ := gp_join (wr := []) (w1 := []) hP hD [0, 1] [] rfl rfl (by decide) (by decide) hk1 hFc ht hB
  have hP : va_P D vwCl [] H := hP
  have hD : va_D A [] := hD
  obtain rfl : r_2 = 0 := hw
  refine lv_icmp_eq (tgt := 1364) hx hb dL_law_1007 (by decide) (fun c_3 => ?_) (fun c_3 => absurd (by decide) c_3)
  refine lv_iinc (v := 7) (lv' := [(3, .int 7), (2, .ref (ma 200)), (1, .ref (xa 0)), (0, .ref b)]) hx hb dL_law_1364 hl (k := 0) rfl (by decide) (by decide) rfl (fun ls hl => ?_)
  refine lv_goto (tgt := 18) hx hb dL_law_1367 (by decide) ?_
  refine lv_iload_n hx hb dL_law_18 rfl (lv_at hl 0 rfl) ?_
  refine lv_aload_n hx hb dL_law_19 rfl (lv_at hl 3 rfl) ?_
  refine va_slen hx hb hX hbl hbA hS dL_law_20 ?_
  refine gp_ni 7 rfl ?_
  refine lv_bipush (v := 7) hx hb dL_law_21 (by decide) ?_
  refine lv_isub hx hb dL_law_23 ?_
  refine gp_ni 0 (by decide) ?_
  refine lv_icmp_gt (tgt := 1370) hx hb dL_law_24 (by decide) (fun c_4 => ?_) (fun c_4 => absurd (by decide) c_4)
  refine lv_iconst (v := 1) hx hb dL_law_1370 (by decide) ?_
  refine va_forget (fun q hq => hSA _ (hS.2.2 q hq)) ?_
  refine W.widen (k := 600000) (n := 7302250) (by decide) (by decide) ?_
  exact lw_ret hx hb hr hlocks dL_law_1371

set_option maxHeartbeats 4000000 in
set_option maxRecDepth 100000 in
theorem law_21 {p : Program} {e : Env} {s : State} {m : MethodId} {below : List Frame} {meth : Method} {c : Code} (l : Launch) {b : Nat} {xs : Nat → Int32} (C0 : lw_At p s m meth c b 7 xs) {D : va_G} {cy : Nat → ClassId} (hK : va_K D vwCl (gp_T cy) s) (hN : gp_N s) (xa ma : Nat → Nat) (fO : Nat → Option Nat) (hO : fO 0 = some (xa 6)) {A : Nat → Prop} (hAe : A = (fun q : Nat => s.heap.size ≤ q)) {H : Heap} {locs : List Loc} {ls : Array Slot} (hP : va_P D vwCl (lw_W cy xa ma fO) H) (hD : va_D A (lw_W cy xa ma fO)) (hS : va_S A s.heap H locs) (hl : lv_has ls 4 [(3, .int 0), (2, .ref (ma 200)), (1, .ref (xa 0)), (0, .ref b)]) : W p l e room_1 s m #[Value.ref b] below meth c H locs 153 14835 (lw_Z below #[Value.ref b] s) (F0 m 1012 ls []) := by
  obtain ⟨hx, hb, hr, hml, hown, hts, hX, hbl, hlocks, hgv⟩ := id C0
  have hown : s.vm.findClass RL = some m.cls := hown
  have hA : ∀ q : Nat, s.heap.size ≤ q → A q := fun q h => by rw [hAe]; exact h
  have hbA : ¬ A b := by rw [hAe]; exact Nat.not_le.mpr hbl
  have hSA : ∀ q : Nat, A q → s.heap.size ≤ q := fun q h => by rw [hAe] at h; exact h
  refine lv_aload_n hx hb dL_law_1012 rfl (lv_at hl 2 rfl) ?_
  refine lv_aload_n hx hb dL_law_1013 rfl (lv_at hl 3 rfl) ?_
  refine lv_iload_n hx hb dL_law_1014 rfl (lv_at hl 0 rfl) ?_
  refine lv_iconst (v := 1) hx hb dL_law_1015 (by decide) ?_
  refine lv_iadd hx hb dL_law_1016 ?_
  refine gp_ni 1 (by decide) ?_
  refine va_sld hx hb hX hbl hbA hS (by unfold vp_in; decide) dL_law_1017 ?_
  refine gp_ni (xs 1) rfl ?_
  refine lv_aload_n hx hb dL_law_1018 rfl (lv_at hl 3 rfl) ?_
  refine lv_iload_n hx hb dL_law_1019 rfl (lv_at hl 0 rfl) ?_
  refine lv_iconst (v := 2) hx hb dL_law_1020 (by decide) ?_
  refine lv_iadd hx hb dL_law_1021 ?_
  refine gp_ni 2 (by decide) ?_
  refine va_sld hx hb hX hbl hbA hS (by unfold vp_in; decide) dL_law_1022 ?_
  refine gp_ni (xs 2) rfl ?_
  refine lv_aload_n hx hb dL_law_1023 rfl (lv_at hl 3 rfl) ?_
  refine lv_iload_n hx hb dL_law_1024 rfl (lv_at hl 0 rfl) ?_
  refine lv_iconst (v := 3) hx hb dL_law_1025 (by decide) ?_
  refine lv_iadd hx hb dL_law_1026 ?_
  refine gp_ni 3 (by decide) ?_
  refine va_sld hx hb hX hbl hbA hS (by unfold vp_in; decide) dL_law_1027 ?_
  refine gp_ni (xs 3) rfl ?_
  refine lv_aload_n hx hb dL_law_1028 rfl (lv_at hl 3 rfl) ?_
  refine lv_iload_n hx hb dL_law_1029 rfl (lv_at hl 0 rfl) ?_
  refine lv_iconst (v := 4) hx hb dL_law_1030 (by decide) ?_
  refine lv_iadd hx hb dL_law_1031 ?_
  refine gp_ni 4 (by decide) ?_
  refine va_sld hx hb hX hbl hbA hS (by unfold vp_in; decide) dL_law_1032 ?_
  refine gp_ni (xs 4) rfl ?_
  refine lv_aload_n hx hb dL_law_1033 rfl (lv_at hl 3 rfl) ?_
  refine lv_iload_n hx hb dL_law_1034 rfl (lv_at hl 0 rfl) ?_
  refine lv_iconst (v := 5) hx hb dL_law_1035 (by decide) ?_
  refine lv_iadd hx hb dL_law_1036 ?_
  refine gp_ni 5 (by decide) ?_
  refine va_sld hx hb hX hbl hbA hS (by unfold vp_in; decide) dL_law_1037 ?_
  refine gp_ni (xs 5) rfl ?_
  have hPc := hP.sub (ws' := [((xa 0), .inr (11, [.ref (xa 1), .ref (xa 3), .ref (xa 7), .ref (xa 11), .ref (xa 20), .ref (xa 24), .ref (xa 25), .ref (xa 29)])), ((xa 11), .inr (7, [.int (-50), .int 0, .int 50, .int 80, .int (-60), .int (-40), .int 60, .int (-40), .int 0, .int 4, .int 0, .ref (xa 12), .ref (xa 13), .ref (xa 14), .ref (xa 15), .ref (xa 16), .ref (xa 17), .ref (xa 18), .ref (xa 19)])), ((xa 24), .inr (4, [.int 0, .int 0, .int 0, .int 0, .int 0]))]) [0, 11, 24] rfl
  have hDc := hD.sub (ws' := [((xa 0), .inr (11, [.ref (xa 1), .ref (xa 3), .ref (xa 7), .ref (xa 11), .ref (xa 20), .ref (xa 24), .ref (xa 25), .ref (xa 29)])), ((xa 11), .inr (7, [.int (-50), .int 0, .int 50, .int 80, .int (-60), .int (-40), .int 60, .int (-40), .int 0, .int 4, .int 0, .ref (xa 12), .ref (xa 13), .ref (xa 14), .ref (xa 15), .ref (xa 16), .ref (xa 17), .ref (xa 18), .ref (xa 19)])), ((xa 24), .inr (4, [.int 0, .int 0, .int 0, .int 0, .int 0]))]) [0, 11, 24] (by decide) rfl
  have hFc := va_free (wc := [((xa 0), .inr (11, [.ref (xa 1), .ref (xa 3), .ref (xa 7), .ref (xa 11), .ref (xa 20), .ref (xa 24), .ref (xa 25), .ref (xa 29)])), ((xa 11), .inr (7, [.int (-50), .int 0, .int 50, .int 80, .int (-60), .int (-40), .int 60, .int (-40), .int 0, .int 4, .int 0, .ref (xa 12), .ref (xa 13), .ref (xa 14), .ref (xa 15), .ref (xa 16), .ref (xa 17), .ref (xa 18), .ref (xa 19)])), ((xa 24), .inr (4, [.int 0, .int 0, .int 0, .int 0, .int 0]))]) hD hS hA [0, 11, 24] rfl
  refine va_calli (va_runV (As := [.int (xs 1), .int (xs 2), .int (xs 3), .int (xs 4), .int (xs 5)]) (rest := []) ⟨hx, hb, hml, hown, hts⟩ (kX11_grid l D cy H.size xa (xs 1) (xs 2) (xs 3) (xs 4) (xs 5)) (cwV 5 hts gc_kX11_grid rfl rfl rfl (by decide +kernel) ⟨Nat.le_of_ble_eq_true rfl, Nat.le_of_ble_eq_true rfl⟩) (gp_preV (RX11, TX11, 8) 11 0 hPc hDc hK hN rfl rfl) rfl rfl hl.1 rfl (lv_room (Nat.le_of_ble_eq_true rfl)) dL_law_1038 ⟨Nat.le_of_ble_eq_true rfl, Nat.le_of_ble_eq_true rfl⟩) hS (fun q _ h => hFc q h) hFc (fun r_1 u t H locs ht hvm hw hB hz1 hk1 hS => ?_)
  obtain ⟨hP, hD⟩ := gp_join (wr := [((ma 200), mo_0 ma), ((ma 11), .inl (cy 3, 8, .inl (fun _ => 0))), ((ma 12), .inl (cy 1, 8, .inl (fun _ => 0))), ((ma 13), .inl (cy 1, 8, .inl (fun _ => 0))), ((ma 14), .inl (cy 3, 12, .inl (fun _ => 0))), ((ma 15), .inl (cy 1, 12, .inl (fun _ => 0))), ((ma 16), .inl (cy 1, 12, .inl (fun _ => 0))), ((ma 17), .inl (cy 1, 12, .inl (fun _ => 0))), ((ma 18), .inl (cy 1, 12, .inl (fun _ => 0))), ((ma 19), .inl (cy 3, 12, .inl (fun _ => 0))), ((ma 20), .inl (cy 3, 8, .inl (fun _ => 0))), ((ma 21), .inl (cy 1, 8, .inl (fun _ => 0))), ((ma 22), .inl (cy 1, 8, .inl (fun _ => 0))), ((ma 23), .inl (cy 1, 8, .inl (fun _ => 0))), ((ma 24), .inl (cy 1, 8, .inl (fun _ => 0))), ((ma 33), .inl (cy 1, 600, .inl (fun _ => 0))), ((ma 68), .inl (cy 1, 8, .inl (fun _ => 0))), ((ma 69), .inl (cy 1, 8, .inl (fun _ => 0))), ((ma 70), .inl (cy 1, 8, .inl (fun _ => 0))), ((ma 73), .inl (cy 1, 241, .inl (fun _ => 0))), ((ma 74), .inl (cy 1, 241, .inl (fun _ => 0))), ((ma 75), .inl (cy 1, 241, .inl (upd (fun _ => 0) 0 1))), ((ma 93), .inl (cy 1, 1000, .inl (fun _ => 0))), ((ma 94), .inl (cy 3, 1001, .inl (fun _ => 0))), ((ma 95), .inl (cy 1, 1000, .inl (fun _ => 0))), ((ma 97), .inl (cy 1, 101, .inl (fun _ => 0))), ((ma 98), .inl (cy 1, 101, .inl (fun _ => 0))), ((ma 99), .inl (cy 1, 101, .inl (fun _ => 0))), ((ma 100), .inl (cy 1, 101, .inl (fun _ => 0)))]) (w1 := []) hP hD [0, 11, 24] [67, 68, 69, 70, 71, 72, 73, 74, 75, 76, 77, 78, 79, 80, 81, 82, 83, 84, 85, 86, 87, 88, 89, 90, 91, 92, 93, 94, 95] rfl rfl (by decide) (by decide) hk1 hFc ht hB
  have hP : va_P D vwCl [((ma 200), mo_0 ma), ((ma 11), .inl (cy 3, 8, .inl (fun _ => 0))), ((ma 12), .inl (cy 1, 8, .inl (fun _ => 0))), ((ma 13), .inl (cy 1, 8, .inl (fun _ => 0))), ((ma 14), .inl (cy 3, 12, .inl (fun _ => 0))), ((ma 15), .inl (cy 1, 12, .inl (fun _ => 0))), ((ma 16), .inl (cy 1, 12, .inl (fun _ => 0))), ((ma 17), .inl (cy 1, 12, .inl (fun _ => 0))), ((ma 18), .inl (cy 1, 12, .inl (fun _ => 0))), ((ma 19), .inl (cy 3, 12, .inl (fun _ => 0))), ((ma 20), .inl (cy 3, 8, .inl (fun _ => 0))), ((ma 21), .inl (cy 1, 8, .inl (fun _ => 0))), ((ma 22), .inl (cy 1, 8, .inl (fun _ => 0))), ((ma 23), .inl (cy 1, 8, .inl (fun _ => 0))), ((ma 24), .inl (cy 1, 8, .inl (fun _ => 0))), ((ma 33), .inl (cy 1, 600, .inl (fun _ => 0))), ((ma 68), .inl (cy 1, 8, .inl (fun _ => 0))), ((ma 69), .inl (cy 1, 8, .inl (fun _ => 0))), ((ma 70), .inl (cy 1, 8, .inl (fun _ => 0))), ((ma 73), .inl (cy 1, 241, .inl (fun _ => 0))), ((ma 74), .inl (cy 1, 241, .inl (fun _ => 0))), ((ma 75), .inl (cy 1, 241, .inl (upd (fun _ => 0) 0 1))), ((ma 93), .inl (cy 1, 1000, .inl (fun _ => 0))), ((ma 94), .inl (cy 3, 1001, .inl (fun _ => 0))), ((ma 95), .inl (cy 1, 1000, .inl (fun _ => 0))), ((ma 97), .inl (cy 1, 101, .inl (fun _ => 0))), ((ma 98), .inl (cy 1, 101, .inl (fun _ => 0))), ((ma 99), .inl (cy 1, 101, .inl (fun _ => 0))), ((ma 100), .inl (cy 1, 101, .inl (fun _ => 0)))] H := hP
  have hD : va_D A [((ma 200), mo_0 ma), ((ma 11), .inl (cy 3, 8, .inl (fun _ => 0))), ((ma 12), .inl (cy 1, 8, .inl (fun _ => 0))), ((ma 13), .inl (cy 1, 8, .inl (fun _ => 0))), ((ma 14), .inl (cy 3, 12, .inl (fun _ => 0))), ((ma 15), .inl (cy 1, 12, .inl (fun _ => 0))), ((ma 16), .inl (cy 1, 12, .inl (fun _ => 0))), ((ma 17), .inl (cy 1, 12, .inl (fun _ => 0))), ((ma 18), .inl (cy 1, 12, .inl (fun _ => 0))), ((ma 19), .inl (cy 3, 12, .inl (fun _ => 0))), ((ma 20), .inl (cy 3, 8, .inl (fun _ => 0))), ((ma 21), .inl (cy 1, 8, .inl (fun _ => 0))), ((ma 22), .inl (cy 1, 8, .inl (fun _ => 0))), ((ma 23), .inl (cy 1, 8, .inl (fun _ => 0))), ((ma 24), .inl (cy 1, 8, .inl (fun _ => 0))), ((ma 33), .inl (cy 1, 600, .inl (fun _ => 0))), ((ma 68), .inl (cy 1, 8, .inl (fun _ => 0))), ((ma 69), .inl (cy 1, 8, .inl (fun _ => 0))), ((ma 70), .inl (cy 1, 8, .inl (fun _ => 0))), ((ma 73), .inl (cy 1, 241, .inl (fun _ => 0))), ((ma 74), .inl (cy 1, 241, .inl (fun _ => 0))), ((ma 75), .inl (cy 1, 241, .inl (upd (fun _ => 0) 0 1))), ((ma 93), .inl (cy 1, 1000, .inl (fun _ => 0))), ((ma 94), .inl (cy 3, 1001, .inl (fun _ => 0))), ((ma 95), .inl (cy 1, 1000, .inl (fun _ => 0))), ((ma 97), .inl (cy 1, 101, .inl (fun _ => 0))), ((ma 98), .inl (cy 1, 101, .inl (fun _ => 0))), ((ma 99), .inl (cy 1, 101, .inl (fun _ => 0))), ((ma 100), .inl (cy 1, 101, .inl (fun _ => 0)))] := hD
  rcases hw with ⟨rfl, p_2⟩ | ⟨rfl, p_2⟩
  · refine lv_aload_n hx hb dL_law_1041 rfl (lv_at hl 1 rfl) ?_
    refine lv_aload_n hx hb dL_law_1042 rfl (lv_at hl 3 rfl) ?_
    refine lv_iload_n hx hb dL_law_1043 rfl (lv_at hl 0 rfl) ?_
    refine lv_iconst (v := 1) hx hb dL_law_1044 (by decide) ?_
    refine lv_iadd hx hb dL_law_1045 ?_
    refine gp_ni 1 (by decide) ?_
    refine va_sld hx hb hX hbl hbA hS (by unfold vp_in; decide) dL_law_1046 ?_
    refine gp_ni (xs 1) rfl ?_
    refine lv_aload_n hx hb dL_law_1047 rfl (lv_at hl 3 rfl) ?_
    refine lv_iload_n hx hb dL_law_1048 rfl (lv_at hl 0 rfl) ?_
    refine lv_iconst (v := 2) hx hb dL_law_1049 (by decide) ?_
    refine lv_iadd hx hb dL_law_1050 ?_
    refine gp_ni 2 (by decide) ?_
    refine va_sld hx hb hX hbl hbA hS (by unfold vp_in; decide) dL_law_1051 ?_
    refine gp_ni (xs 2) rfl ?_
    refine lv_aload_n hx hb dL_law_1052 rfl (lv_at hl 3 rfl) ?_
    refine lv_iload_n hx hb dL_law_1053 rfl (lv_at hl 0 rfl) ?_
    refine lv_iconst (v := 3) hx hb dL_law_1054 (by decide) ?_
    refine lv_iadd hx hb dL_law_1055 ?_
    refine gp_ni 3 (by decide) ?_
    refine va_sld hx hb hX hbl hbA hS (by unfold vp_in; decide) dL_law_1056 ?_
    refine gp_ni (xs 3) rfl ?_
    refine lv_aload_n hx hb dL_law_1057 rfl (lv_at hl 3 rfl) ?_
    refine lv_iload_n hx hb dL_law_1058 rfl (lv_at hl 0 rfl) ?_
    refine lv_iconst (v := 4) hx hb dL_law_1059 (by decide) ?_
    refine lv_iadd hx hb dL_law_1060 ?_
    refine gp_ni 4 (by decide) ?_
    refine va_sld hx hb hX hbl hbA hS (by unfold vp_in; decide) dL_law_1061 ?_
    refine gp_ni (xs 4) rfl ?_
    refine lv_aload_n hx hb dL_law_1062 rfl (lv_at hl 3 rfl) ?_
    refine lv_iload_n hx hb dL_law_1063 rfl (lv_at hl 0 rfl) ?_
    refine lv_iconst (v := 5) hx hb dL_law_1064 (by decide) ?_
    refine lv_iadd hx hb dL_law_1065 ?_
    refine gp_ni 5 (by decide) ?_
    refine va_sld hx hb hX hbl hbA hS (by unfold vp_in; decide) dL_law_1066 ?_
    refine gp_ni (xs 5) rfl ?_
    have hPc := hP.sub (ws' := [((ma 200), mo_0 ma)]) [0] rfl
    have hDc := hD.sub (ws' := [((ma 200), mo_0 ma)]) [0] (by decide) rfl
    have hFc := va_free (wc := [((ma 200), mo_0 ma)]) hD hS hA [0] rfl
    refine va_calli (va_runV (As := [.int (xs 1), .int (xs 2), .int (xs 3), .int (xs 4), .int (xs 5)]) (rest := [.int ((xs 1) * (xs 4))]) ⟨hx, hb, hml, hown, hts⟩ (kX12_grid l D cy H.size ma (xs 1) (xs 2) (xs 3) (xs 4) (xs 5)) (cwV 5 hts gc_kX12_grid rfl rfl rfl (by decide +kernel) ⟨Nat.le_of_ble_eq_true rfl, Nat.le_of_ble_eq_true rfl⟩) (gp_preV (RX12, TX12, 104) 12 0 hPc hDc hK hN rfl rfl) rfl rfl hl.1 rfl (lv_room (Nat.le_of_ble_eq_true rfl)) dL_law_1067 ⟨Nat.le_of_ble_eq_true rfl, Nat.le_of_ble_eq_true rfl⟩) hS (fun q _ h => hFc q h) hFc (fun r_3 u t H locs ht hvm hw hB hz1 hk1 hS => ?_)
    obtain ⟨hP, hD⟩ := gp_join (wr := []) (w1 := []) hP hD [0] [] rfl rfl (by decide) (by decide) hk1 hFc ht hB
    have hP : va_P D vwCl [] H := hP
    have hD : va_D A [] := hD
    rcases hw with ⟨rfl, p_4⟩ | ⟨rfl, p_4⟩
    · refine lv_icmp_eq (tgt := 1364) hx hb dL_law_1070 (by decide) (fun c_5 => ?_) (fun c_5 => absurd rfl c_5)
      refine lv_iinc (v := 7) (lv' := [(3, .int 7), (2, .ref (ma 200)), (1, .ref (xa 0)), (0, .ref b)]) hx hb dL_law_1364 hl (k := 0) rfl (by decide) (by decide) rfl (fun ls hl => ?_)
      refine lv_goto (tgt := 18) hx hb dL_law_1367 (by decide) ?_
      refine lv_iload_n hx hb dL_law_18 rfl (lv_at hl 0 rfl) ?_
      refine lv_aload_n hx hb dL_law_19 rfl (lv_at hl 3 rfl) ?_
      refine va_slen hx hb hX hbl hbA hS dL_law_20 ?_
      refine gp_ni 7 rfl ?_
      refine lv_bipush (v := 7) hx hb dL_law_21 (by decide) ?_
      refine lv_isub hx hb dL_law_23 ?_
      refine gp_ni 0 (by decide) ?_
      refine lv_icmp_gt (tgt := 1370) hx hb dL_law_24 (by decide) (fun c_6 => ?_) (fun c_6 => absurd (by decide) c_6)
      refine lv_iconst (v := 1) hx hb dL_law_1370 (by decide) ?_
      refine va_forget (fun q hq => hSA _ (hS.2.2 q hq)) ?_
      refine W.widen (k := 600000) (n := 7302250) (by decide) (by decide) ?_
      exact lw_ret hx hb hr hlocks dL_law_1371
    · exact absurd p_2 p_4
  · refine lv_aload_n hx hb dL_law_1041 rfl (lv_at hl 1 rfl) ?_
    refine lv_aload_n hx hb dL_law_1042 rfl (lv_at hl 3 rfl) ?_
    refine lv_iload_n hx hb dL_law_1043 rfl (lv_at hl 0 rfl) ?_
    refine lv_iconst (v := 1) hx hb dL_law_1044 (by decide) ?_
    refine lv_iadd hx hb dL_law_1045 ?_
    refine gp_ni 1 (by decide) ?_
    refine va_sld hx hb hX hbl hbA hS (by unfold vp_in; decide) dL_law_1046 ?_
    refine gp_ni (xs 1) rfl ?_
    refine lv_aload_n hx hb dL_law_1047 rfl (lv_at hl 3 rfl) ?_
    refine lv_iload_n hx hb dL_law_1048 rfl (lv_at hl 0 rfl) ?_
    refine lv_iconst (v := 2) hx hb dL_law_1049 (by decide) ?_
    refine lv_iadd hx hb dL_law_1050 ?_
    refine gp_ni 2 (by decide) ?_
    refine va_sld hx hb hX hbl hbA hS (by unfold vp_in; decide) dL_law_1051 ?_
    refine gp_ni (xs 2) rfl ?_
    refine lv_aload_n hx hb dL_law_1052 rfl (lv_at hl 3 rfl) ?_
    refine lv_iload_n hx hb dL_law_1053 rfl (lv_at hl 0 rfl) ?_
    refine lv_iconst (v := 3) hx hb dL_law_1054 (by decide) ?_
    refine lv_iadd hx hb dL_law_1055 ?_
    refine gp_ni 3 (by decide) ?_
    refine va_sld hx hb hX hbl hbA hS (by unfold vp_in; decide) dL_law_1056 ?_
    refine gp_ni (xs 3) rfl ?_
    refine lv_aload_n hx hb dL_law_1057 rfl (lv_at hl 3 rfl) ?_
    refine lv_iload_n hx hb dL_law_1058 rfl (lv_at hl 0 rfl) ?_
    refine lv_iconst (v := 4) hx hb dL_law_1059 (by decide) ?_
    refine lv_iadd hx hb dL_law_1060 ?_
    refine gp_ni 4 (by decide) ?_
    refine va_sld hx hb hX hbl hbA hS (by unfold vp_in; decide) dL_law_1061 ?_
    refine gp_ni (xs 4) rfl ?_
    refine lv_aload_n hx hb dL_law_1062 rfl (lv_at hl 3 rfl) ?_
    refine lv_iload_n hx hb dL_law_1063 rfl (lv_at hl 0 rfl) ?_
    refine lv_iconst (v := 5) hx hb dL_law_1064 (by decide) ?_
    refine lv_iadd hx hb dL_law_1065 ?_
    refine gp_ni 5 (by decide) ?_
    refine va_sld hx hb hX hbl hbA hS (by unfold vp_in; decide) dL_law_1066 ?_
    refine gp_ni (xs 5) rfl ?_
    have hPc := hP.sub (ws' := [((ma 200), mo_0 ma)]) [0] rfl
    have hDc := hD.sub (ws' := [((ma 200), mo_0 ma)]) [0] (by decide) rfl
    have hFc := va_free (wc := [((ma 200), mo_0 ma)]) hD hS hA [0] rfl
    refine va_calli (va_runV (As := [.int (xs 1), .int (xs 2), .int (xs 3), .int (xs 4), .int (xs 5)]) (rest := [.int (-1)]) ⟨hx, hb, hml, hown, hts⟩ (kX12_grid l D cy H.size ma (xs 1) (xs 2) (xs 3) (xs 4) (xs 5)) (cwV 5 hts gc_kX12_grid rfl rfl rfl (by decide +kernel) ⟨Nat.le_of_ble_eq_true rfl, Nat.le_of_ble_eq_true rfl⟩) (gp_preV (RX12, TX12, 104) 12 0 hPc hDc hK hN rfl rfl) rfl rfl hl.1 rfl (lv_room (Nat.le_of_ble_eq_true rfl)) dL_law_1067 ⟨Nat.le_of_ble_eq_true rfl, Nat.le_of_ble_eq_true rfl⟩) hS (fun q _ h => hFc q h) hFc (fun r_7 u t H locs ht hvm hw hB hz1 hk1 hS => ?_)
    obtain ⟨hP, hD⟩ := gp_join (wr := []) (w1 := []) hP hD [0] [] rfl rfl (by decide) (by decide) hk1 hFc ht hB
    have hP : va_P D vwCl [] H := hP
    have hD : va_D A [] := hD
    rcases hw with ⟨rfl, p_8⟩ | ⟨rfl, p_8⟩
    · exact absurd p_8 p_2
    · refine lv_icmp_eq (tgt := 1364) hx hb dL_law_1070 (by decide) (fun c_9 => ?_) (fun c_9 => absurd rfl c_9)
      refine lv_iinc (v := 7) (lv' := [(3, .int 7), (2, .ref (ma 200)), (1, .ref (xa 0)), (0, .ref b)]) hx hb dL_law_1364 hl (k := 0) rfl (by decide) (by decide) rfl (fun ls hl => ?_)
      refine lv_goto (tgt := 18) hx hb dL_law_1367 (by decide) ?_
      refine lv_iload_n hx hb dL_law_18 rfl (lv_at hl 0 rfl) ?_
      refine lv_aload_n hx hb dL_law_19 rfl (lv_at hl 3 rfl) ?_
      refine va_slen hx hb hX hbl hbA hS dL_law_20 ?_
      refine gp_ni 7 rfl ?_
      refine lv_bipush (v := 7) hx hb dL_law_21 (by decide) ?_
      refine lv_isub hx hb dL_law_23 ?_
      refine gp_ni 0 (by decide) ?_
      refine lv_icmp_gt (tgt := 1370) hx hb dL_law_24 (by decide) (fun c_10 => ?_) (fun c_10 => absurd (by decide) c_10)
      refine lv_iconst (v := 1) hx hb dL_law_1370 (by decide) ?_
      refine va_forget (fun q hq => hSA _ (hS.2.2 q hq)) ?_
      refine W.widen (k := 600000) (n := 7302250) (by decide) (by decide) ?_
      exact lw_ret hx hb hr hlocks dL_law_1371

set_option maxHeartbeats 4000000 in
set_option maxRecDepth 100000 in
theorem law_22 {p : Program} {e : Env} {s : State} {m : MethodId} {below : List Frame} {meth : Method} {c : Code} (l : Launch) {b : Nat} {xs : Nat → Int32} (C0 : lw_At p s m meth c b 7 xs) {D : va_G} {cy : Nat → ClassId} (hK : va_K D vwCl (gp_T cy) s) (hN : gp_N s) (xa ma : Nat → Nat) (fO : Nat → Option Nat) (hO : fO 0 = some (xa 6)) {A : Nat → Prop} (hAe : A = (fun q : Nat => s.heap.size ≤ q)) {H : Heap} {locs : List Loc} {ls : Array Slot} (hP : va_P D vwCl (lw_W cy xa ma fO) H) (hD : va_D A (lw_W cy xa ma fO)) (hS : va_S A s.heap H locs) (hl : lv_has ls 4 [(3, .int 0), (2, .ref (ma 200)), (1, .ref (xa 0)), (0, .ref b)]) : W p l e room_1 s m #[Value.ref b] below meth c H locs 153 14835 (lw_Z below #[Value.ref b] s) (F0 m 1075 ls []) := by
  obtain ⟨hx, hb, hr, hml, hown, hts, hX, hbl, hlocks, hgv⟩ := id C0
  have hown : s.vm.findClass RL = some m.cls := hown
  have hA : ∀ q : Nat, s.heap.size ≤ q → A q := fun q h => by rw [hAe]; exact h
  have hbA : ¬ A b := by rw [hAe]; exact Nat.not_le.mpr hbl
  have hSA : ∀ q : Nat, A q → s.heap.size ≤ q := fun q h => by rw [hAe] at h; exact h
  refine lv_aload_n hx hb dL_law_1075 rfl (lv_at hl 2 rfl) ?_
  refine lv_aload_n hx hb dL_law_1076 rfl (lv_at hl 3 rfl) ?_
  refine lv_iload_n hx hb dL_law_1077 rfl (lv_at hl 0 rfl) ?_
  refine lv_iconst (v := 1) hx hb dL_law_1078 (by decide) ?_
  refine lv_iadd hx hb dL_law_1079 ?_
  refine gp_ni 1 (by decide) ?_
  refine va_sld hx hb hX hbl hbA hS (by unfold vp_in; decide) dL_law_1080 ?_
  refine gp_ni (xs 1) rfl ?_
  have hPc := hP.sub (ws' := [((xa 0), .inr (11, [.ref (xa 1), .ref (xa 3), .ref (xa 7), .ref (xa 11), .ref (xa 20), .ref (xa 24), .ref (xa 25), .ref (xa 29)])), ((xa 24), .inr (4, [.int 0, .int 0, .int 0, .int 0, .int 0]))]) [0, 24] rfl
  have hDc := hD.sub (ws' := [((xa 0), .inr (11, [.ref (xa 1), .ref (xa 3), .ref (xa 7), .ref (xa 11), .ref (xa 20), .ref (xa 24), .ref (xa 25), .ref (xa 29)])), ((xa 24), .inr (4, [.int 0, .int 0, .int 0, .int 0, .int 0]))]) [0, 24] (by decide) rfl
  have hFc := va_free (wc := [((xa 0), .inr (11, [.ref (xa 1), .ref (xa 3), .ref (xa 7), .ref (xa 11), .ref (xa 20), .ref (xa 24), .ref (xa 25), .ref (xa 29)])), ((xa 24), .inr (4, [.int 0, .int 0, .int 0, .int 0, .int 0]))]) hD hS hA [0, 24] rfl
  refine va_calli (va_runV (As := [.int (xs 1)]) (rest := []) ⟨hx, hb, hml, hown, hts⟩ (kX11_tried l D cy H.size xa (xs 1)) (cwV 1 hts gc_kX11_tried rfl rfl rfl (by decide +kernel) ⟨Nat.le_of_ble_eq_true rfl, Nat.le_of_ble_eq_true rfl⟩) (gp_preV (RX11, TX11, 8) 11 0 hPc hDc hK hN rfl rfl) rfl rfl hl.1 rfl (lv_room (Nat.le_of_ble_eq_true rfl)) dL_law_1081 ⟨Nat.le_of_ble_eq_true rfl, Nat.le_of_ble_eq_true rfl⟩) hS (fun q _ h => hFc q h) hFc (fun r_1 u t H locs ht hvm hw hB hz1 hk1 hS => ?_)
  obtain ⟨hP, hD⟩ := gp_join (wr := [((ma 200), mo_0 ma), ((ma 11), .inl (cy 3, 8, .inl (fun _ => 0))), ((ma 12), .inl (cy 1, 8, .inl (fun _ => 0))), ((ma 13), .inl (cy 1, 8, .inl (fun _ => 0))), ((ma 14), .inl (cy 3, 12, .inl (fun _ => 0))), ((ma 15), .inl (cy 1, 12, .inl (fun _ => 0))), ((ma 16), .inl (cy 1, 12, .inl (fun _ => 0))), ((ma 17), .inl (cy 1, 12, .inl (fun _ => 0))), ((ma 18), .inl (cy 1, 12, .inl (fun _ => 0))), ((ma 19), .inl (cy 3, 12, .inl (fun _ => 0))), ((ma 20), .inl (cy 3, 8, .inl (fun _ => 0))), ((ma 21), .inl (cy 1, 8, .inl (fun _ => 0))), ((ma 22), .inl (cy 1, 8, .inl (fun _ => 0))), ((ma 23), .inl (cy 1, 8, .inl (fun _ => 0))), ((ma 24), .inl (cy 1, 8, .inl (fun _ => 0))), ((ma 33), .inl (cy 1, 600, .inl (fun _ => 0))), ((ma 68), .inl (cy 1, 8, .inl (fun _ => 0))), ((ma 69), .inl (cy 1, 8, .inl (fun _ => 0))), ((ma 70), .inl (cy 1, 8, .inl (fun _ => 0))), ((ma 73), .inl (cy 1, 241, .inl (fun _ => 0))), ((ma 74), .inl (cy 1, 241, .inl (fun _ => 0))), ((ma 75), .inl (cy 1, 241, .inl (upd (fun _ => 0) 0 1))), ((ma 93), .inl (cy 1, 1000, .inl (fun _ => 0))), ((ma 94), .inl (cy 3, 1001, .inl (fun _ => 0))), ((ma 95), .inl (cy 1, 1000, .inl (fun _ => 0))), ((ma 97), .inl (cy 1, 101, .inl (fun _ => 0))), ((ma 98), .inl (cy 1, 101, .inl (fun _ => 0))), ((ma 99), .inl (cy 1, 101, .inl (fun _ => 0))), ((ma 100), .inl (cy 1, 101, .inl (fun _ => 0)))]) (w1 := []) hP hD [0, 24] [67, 68, 69, 70, 71, 72, 73, 74, 75, 76, 77, 78, 79, 80, 81, 82, 83, 84, 85, 86, 87, 88, 89, 90, 91, 92, 93, 94, 95] rfl rfl (by decide) (by decide) hk1 hFc ht hB
  have hP : va_P D vwCl [((ma 200), mo_0 ma), ((ma 11), .inl (cy 3, 8, .inl (fun _ => 0))), ((ma 12), .inl (cy 1, 8, .inl (fun _ => 0))), ((ma 13), .inl (cy 1, 8, .inl (fun _ => 0))), ((ma 14), .inl (cy 3, 12, .inl (fun _ => 0))), ((ma 15), .inl (cy 1, 12, .inl (fun _ => 0))), ((ma 16), .inl (cy 1, 12, .inl (fun _ => 0))), ((ma 17), .inl (cy 1, 12, .inl (fun _ => 0))), ((ma 18), .inl (cy 1, 12, .inl (fun _ => 0))), ((ma 19), .inl (cy 3, 12, .inl (fun _ => 0))), ((ma 20), .inl (cy 3, 8, .inl (fun _ => 0))), ((ma 21), .inl (cy 1, 8, .inl (fun _ => 0))), ((ma 22), .inl (cy 1, 8, .inl (fun _ => 0))), ((ma 23), .inl (cy 1, 8, .inl (fun _ => 0))), ((ma 24), .inl (cy 1, 8, .inl (fun _ => 0))), ((ma 33), .inl (cy 1, 600, .inl (fun _ => 0))), ((ma 68), .inl (cy 1, 8, .inl (fun _ => 0))), ((ma 69), .inl (cy 1, 8, .inl (fun _ => 0))), ((ma 70), .inl (cy 1, 8, .inl (fun _ => 0))), ((ma 73), .inl (cy 1, 241, .inl (fun _ => 0))), ((ma 74), .inl (cy 1, 241, .inl (fun _ => 0))), ((ma 75), .inl (cy 1, 241, .inl (upd (fun _ => 0) 0 1))), ((ma 93), .inl (cy 1, 1000, .inl (fun _ => 0))), ((ma 94), .inl (cy 3, 1001, .inl (fun _ => 0))), ((ma 95), .inl (cy 1, 1000, .inl (fun _ => 0))), ((ma 97), .inl (cy 1, 101, .inl (fun _ => 0))), ((ma 98), .inl (cy 1, 101, .inl (fun _ => 0))), ((ma 99), .inl (cy 1, 101, .inl (fun _ => 0))), ((ma 100), .inl (cy 1, 101, .inl (fun _ => 0)))] H := hP
  have hD : va_D A [((ma 200), mo_0 ma), ((ma 11), .inl (cy 3, 8, .inl (fun _ => 0))), ((ma 12), .inl (cy 1, 8, .inl (fun _ => 0))), ((ma 13), .inl (cy 1, 8, .inl (fun _ => 0))), ((ma 14), .inl (cy 3, 12, .inl (fun _ => 0))), ((ma 15), .inl (cy 1, 12, .inl (fun _ => 0))), ((ma 16), .inl (cy 1, 12, .inl (fun _ => 0))), ((ma 17), .inl (cy 1, 12, .inl (fun _ => 0))), ((ma 18), .inl (cy 1, 12, .inl (fun _ => 0))), ((ma 19), .inl (cy 3, 12, .inl (fun _ => 0))), ((ma 20), .inl (cy 3, 8, .inl (fun _ => 0))), ((ma 21), .inl (cy 1, 8, .inl (fun _ => 0))), ((ma 22), .inl (cy 1, 8, .inl (fun _ => 0))), ((ma 23), .inl (cy 1, 8, .inl (fun _ => 0))), ((ma 24), .inl (cy 1, 8, .inl (fun _ => 0))), ((ma 33), .inl (cy 1, 600, .inl (fun _ => 0))), ((ma 68), .inl (cy 1, 8, .inl (fun _ => 0))), ((ma 69), .inl (cy 1, 8, .inl (fun _ => 0))), ((ma 70), .inl (cy 1, 8, .inl (fun _ => 0))), ((ma 73), .inl (cy 1, 241, .inl (fun _ => 0))), ((ma 74), .inl (cy 1, 241, .inl (fun _ => 0))), ((ma 75), .inl (cy 1, 241, .inl (upd (fun _ => 0) 0 1))), ((ma 93), .inl (cy 1, 1000, .inl (fun _ => 0))), ((ma 94), .inl (cy 3, 1001, .inl (fun _ => 0))), ((ma 95), .inl (cy 1, 1000, .inl (fun _ => 0))), ((ma 97), .inl (cy 1, 101, .inl (fun _ => 0))), ((ma 98), .inl (cy 1, 101, .inl (fun _ => 0))), ((ma 99), .inl (cy 1, 101, .inl (fun _ => 0))), ((ma 100), .inl (cy 1, 101, .inl (fun _ => 0)))] := hD
  obtain rfl : r_1 = (-1) := hw
  refine lv_aload_n hx hb dL_law_1084 rfl (lv_at hl 1 rfl) ?_
  refine lv_aload_n hx hb dL_law_1085 rfl (lv_at hl 3 rfl) ?_
  refine lv_iload_n hx hb dL_law_1086 rfl (lv_at hl 0 rfl) ?_
  refine lv_iconst (v := 1) hx hb dL_law_1087 (by decide) ?_
  refine lv_iadd hx hb dL_law_1088 ?_
  refine gp_ni 1 (by decide) ?_
  refine va_sld hx hb hX hbl hbA hS (by unfold vp_in; decide) dL_law_1089 ?_
  refine gp_ni (xs 1) rfl ?_
  have hPc := hP.sub (ws' := [((ma 200), mo_0 ma)]) [0] rfl
  have hDc := hD.sub (ws' := [((ma 200), mo_0 ma)]) [0] (by decide) rfl
  have hFc := va_free (wc := [((ma 200), mo_0 ma)]) hD hS hA [0] rfl
  refine va_calli (va_runV (As := [.int (xs 1)]) (rest := [.int (-1)]) ⟨hx, hb, hml, hown, hts⟩ (kX12_tried l D cy H.size ma (xs 1)) (cwV 1 hts gc_kX12_tried rfl rfl rfl (by decide +kernel) ⟨Nat.le_of_ble_eq_true rfl, Nat.le_of_ble_eq_true rfl⟩) (gp_preV (RX12, TX12, 104) 12 0 hPc hDc hK hN rfl rfl) rfl rfl hl.1 rfl (lv_room (Nat.le_of_ble_eq_true rfl)) dL_law_1090 ⟨Nat.le_of_ble_eq_true rfl, Nat.le_of_ble_eq_true rfl⟩) hS (fun q _ h => hFc q h) hFc (fun r_2 u t H locs ht hvm hw hB hz1 hk1 hS => ?_)
  obtain ⟨hP, hD⟩ := gp_join (wr := []) (w1 := []) hP hD [0] [] rfl rfl (by decide) (by decide) hk1 hFc ht hB
  have hP : va_P D vwCl [] H := hP
  have hD : va_D A [] := hD
  obtain rfl : r_2 = (-1) := hw
  refine lv_icmp_eq (tgt := 1364) hx hb dL_law_1093 (by decide) (fun c_3 => ?_) (fun c_3 => absurd (by decide) c_3)
  refine lv_iinc (v := 7) (lv' := [(3, .int 7), (2, .ref (ma 200)), (1, .ref (xa 0)), (0, .ref b)]) hx hb dL_law_1364 hl (k := 0) rfl (by decide) (by decide) rfl (fun ls hl => ?_)
  refine lv_goto (tgt := 18) hx hb dL_law_1367 (by decide) ?_
  refine lv_iload_n hx hb dL_law_18 rfl (lv_at hl 0 rfl) ?_
  refine lv_aload_n hx hb dL_law_19 rfl (lv_at hl 3 rfl) ?_
  refine va_slen hx hb hX hbl hbA hS dL_law_20 ?_
  refine gp_ni 7 rfl ?_
  refine lv_bipush (v := 7) hx hb dL_law_21 (by decide) ?_
  refine lv_isub hx hb dL_law_23 ?_
  refine gp_ni 0 (by decide) ?_
  refine lv_icmp_gt (tgt := 1370) hx hb dL_law_24 (by decide) (fun c_4 => ?_) (fun c_4 => absurd (by decide) c_4)
  refine lv_iconst (v := 1) hx hb dL_law_1370 (by decide) ?_
  refine va_forget (fun q hq => hSA _ (hS.2.2 q hq)) ?_
  refine W.widen (k := 600000) (n := 7302250) (by decide) (by decide) ?_
  exact lw_ret hx hb hr hlocks dL_law_1371

set_option maxHeartbeats 4000000 in
set_option maxRecDepth 100000 in
theorem law_23 {p : Program} {e : Env} {s : State} {m : MethodId} {below : List Frame} {meth : Method} {c : Code} (l : Launch) {b : Nat} {xs : Nat → Int32} (C0 : lw_At p s m meth c b 7 xs) {D : va_G} {cy : Nat → ClassId} (hK : va_K D vwCl (gp_T cy) s) (hN : gp_N s) (xa ma : Nat → Nat) (fO : Nat → Option Nat) (hO : fO 0 = some (xa 6)) {A : Nat → Prop} (hAe : A = (fun q : Nat => s.heap.size ≤ q)) {H : Heap} {locs : List Loc} {ls : Array Slot} (hP : va_P D vwCl (lw_W cy xa ma fO) H) (hD : va_D A (lw_W cy xa ma fO)) (hS : va_S A s.heap H locs) (hl : lv_has ls 4 [(3, .int 0), (2, .ref (ma 200)), (1, .ref (xa 0)), (0, .ref b)]) : W p l e room_1 s m #[Value.ref b] below meth c H locs 153 14835 (lw_Z below #[Value.ref b] s) (F0 m 1098 ls []) := by
  obtain ⟨hx, hb, hr, hml, hown, hts, hX, hbl, hlocks, hgv⟩ := id C0
  have hown : s.vm.findClass RL = some m.cls := hown
  have hA : ∀ q : Nat, s.heap.size ≤ q → A q := fun q h => by rw [hAe]; exact h
  have hbA : ¬ A b := by rw [hAe]; exact Nat.not_le.mpr hbl
  have hSA : ∀ q : Nat, A q → s.heap.size ≤ q := fun q h => by rw [hAe] at h; exact h
  refine lv_aload_n hx hb dL_law_1098 rfl (lv_at hl 2 rfl) ?_
  have hPc := hP.sub (ws' := [((xa 0), .inr (11, [.ref (xa 1), .ref (xa 3), .ref (xa 7), .ref (xa 11), .ref (xa 20), .ref (xa 24), .ref (xa 25), .ref (xa 29)])), ((xa 24), .inr (4, [.int 0, .int 0, .int 0, .int 0, .int 0]))]) [0, 24] rfl
  have hDc := hD.sub (ws' := [((xa 0), .inr (11, [.ref (xa 1), .ref (xa 3), .ref (xa 7), .ref (xa 11), .ref (xa 20), .ref (xa 24), .ref (xa 25), .ref (xa 29)])), ((xa 24), .inr (4, [.int 0, .int 0, .int 0, .int 0, .int 0]))]) [0, 24] (by decide) rfl
  have hFc := va_free (wc := [((xa 0), .inr (11, [.ref (xa 1), .ref (xa 3), .ref (xa 7), .ref (xa 11), .ref (xa 20), .ref (xa 24), .ref (xa 25), .ref (xa 29)])), ((xa 24), .inr (4, [.int 0, .int 0, .int 0, .int 0, .int 0]))]) hD hS hA [0, 24] rfl
  refine va_calli (va_runV (As := []) (rest := []) ⟨hx, hb, hml, hown, hts⟩ (kX11_best l D cy H.size xa) (cwV 0 hts gc_kX11_best rfl rfl rfl (by decide +kernel) ⟨Nat.le_of_ble_eq_true rfl, Nat.le_of_ble_eq_true rfl⟩) (gp_preV (RX11, TX11, 8) 11 0 hPc hDc hK hN rfl rfl) rfl rfl hl.1 rfl (lv_room (Nat.le_of_ble_eq_true rfl)) dL_law_1099 ⟨Nat.le_of_ble_eq_true rfl, Nat.le_of_ble_eq_true rfl⟩) hS (fun q _ h => hFc q h) hFc (fun r_1 u t H locs ht hvm hw hB hz1 hk1 hS => ?_)
  obtain ⟨hP, hD⟩ := gp_join (wr := [((ma 200), mo_0 ma), ((ma 11), .inl (cy 3, 8, .inl (fun _ => 0))), ((ma 12), .inl (cy 1, 8, .inl (fun _ => 0))), ((ma 13), .inl (cy 1, 8, .inl (fun _ => 0))), ((ma 14), .inl (cy 3, 12, .inl (fun _ => 0))), ((ma 15), .inl (cy 1, 12, .inl (fun _ => 0))), ((ma 16), .inl (cy 1, 12, .inl (fun _ => 0))), ((ma 17), .inl (cy 1, 12, .inl (fun _ => 0))), ((ma 18), .inl (cy 1, 12, .inl (fun _ => 0))), ((ma 19), .inl (cy 3, 12, .inl (fun _ => 0))), ((ma 20), .inl (cy 3, 8, .inl (fun _ => 0))), ((ma 21), .inl (cy 1, 8, .inl (fun _ => 0))), ((ma 22), .inl (cy 1, 8, .inl (fun _ => 0))), ((ma 23), .inl (cy 1, 8, .inl (fun _ => 0))), ((ma 24), .inl (cy 1, 8, .inl (fun _ => 0))), ((ma 33), .inl (cy 1, 600, .inl (fun _ => 0))), ((ma 68), .inl (cy 1, 8, .inl (fun _ => 0))), ((ma 69), .inl (cy 1, 8, .inl (fun _ => 0))), ((ma 70), .inl (cy 1, 8, .inl (fun _ => 0))), ((ma 73), .inl (cy 1, 241, .inl (fun _ => 0))), ((ma 74), .inl (cy 1, 241, .inl (fun _ => 0))), ((ma 75), .inl (cy 1, 241, .inl (upd (fun _ => 0) 0 1))), ((ma 93), .inl (cy 1, 1000, .inl (fun _ => 0))), ((ma 94), .inl (cy 3, 1001, .inl (fun _ => 0))), ((ma 95), .inl (cy 1, 1000, .inl (fun _ => 0))), ((ma 97), .inl (cy 1, 101, .inl (fun _ => 0))), ((ma 98), .inl (cy 1, 101, .inl (fun _ => 0))), ((ma 99), .inl (cy 1, 101, .inl (fun _ => 0))), ((ma 100), .inl (cy 1, 101, .inl (fun _ => 0)))]) (w1 := []) hP hD [0, 24] [67, 68, 69, 70, 71, 72, 73, 74, 75, 76, 77, 78, 79, 80, 81, 82, 83, 84, 85, 86, 87, 88, 89, 90, 91, 92, 93, 94, 95] rfl rfl (by decide) (by decide) hk1 hFc ht hB
  have hP : va_P D vwCl [((ma 200), mo_0 ma), ((ma 11), .inl (cy 3, 8, .inl (fun _ => 0))), ((ma 12), .inl (cy 1, 8, .inl (fun _ => 0))), ((ma 13), .inl (cy 1, 8, .inl (fun _ => 0))), ((ma 14), .inl (cy 3, 12, .inl (fun _ => 0))), ((ma 15), .inl (cy 1, 12, .inl (fun _ => 0))), ((ma 16), .inl (cy 1, 12, .inl (fun _ => 0))), ((ma 17), .inl (cy 1, 12, .inl (fun _ => 0))), ((ma 18), .inl (cy 1, 12, .inl (fun _ => 0))), ((ma 19), .inl (cy 3, 12, .inl (fun _ => 0))), ((ma 20), .inl (cy 3, 8, .inl (fun _ => 0))), ((ma 21), .inl (cy 1, 8, .inl (fun _ => 0))), ((ma 22), .inl (cy 1, 8, .inl (fun _ => 0))), ((ma 23), .inl (cy 1, 8, .inl (fun _ => 0))), ((ma 24), .inl (cy 1, 8, .inl (fun _ => 0))), ((ma 33), .inl (cy 1, 600, .inl (fun _ => 0))), ((ma 68), .inl (cy 1, 8, .inl (fun _ => 0))), ((ma 69), .inl (cy 1, 8, .inl (fun _ => 0))), ((ma 70), .inl (cy 1, 8, .inl (fun _ => 0))), ((ma 73), .inl (cy 1, 241, .inl (fun _ => 0))), ((ma 74), .inl (cy 1, 241, .inl (fun _ => 0))), ((ma 75), .inl (cy 1, 241, .inl (upd (fun _ => 0) 0 1))), ((ma 93), .inl (cy 1, 1000, .inl (fun _ => 0))), ((ma 94), .inl (cy 3, 1001, .inl (fun _ => 0))), ((ma 95), .inl (cy 1, 1000, .inl (fun _ => 0))), ((ma 97), .inl (cy 1, 101, .inl (fun _ => 0))), ((ma 98), .inl (cy 1, 101, .inl (fun _ => 0))), ((ma 99), .inl (cy 1, 101, .inl (fun _ => 0))), ((ma 100), .inl (cy 1, 101, .inl (fun _ => 0)))] H := hP
  have hD : va_D A [((ma 200), mo_0 ma), ((ma 11), .inl (cy 3, 8, .inl (fun _ => 0))), ((ma 12), .inl (cy 1, 8, .inl (fun _ => 0))), ((ma 13), .inl (cy 1, 8, .inl (fun _ => 0))), ((ma 14), .inl (cy 3, 12, .inl (fun _ => 0))), ((ma 15), .inl (cy 1, 12, .inl (fun _ => 0))), ((ma 16), .inl (cy 1, 12, .inl (fun _ => 0))), ((ma 17), .inl (cy 1, 12, .inl (fun _ => 0))), ((ma 18), .inl (cy 1, 12, .inl (fun _ => 0))), ((ma 19), .inl (cy 3, 12, .inl (fun _ => 0))), ((ma 20), .inl (cy 3, 8, .inl (fun _ => 0))), ((ma 21), .inl (cy 1, 8, .inl (fun _ => 0))), ((ma 22), .inl (cy 1, 8, .inl (fun _ => 0))), ((ma 23), .inl (cy 1, 8, .inl (fun _ => 0))), ((ma 24), .inl (cy 1, 8, .inl (fun _ => 0))), ((ma 33), .inl (cy 1, 600, .inl (fun _ => 0))), ((ma 68), .inl (cy 1, 8, .inl (fun _ => 0))), ((ma 69), .inl (cy 1, 8, .inl (fun _ => 0))), ((ma 70), .inl (cy 1, 8, .inl (fun _ => 0))), ((ma 73), .inl (cy 1, 241, .inl (fun _ => 0))), ((ma 74), .inl (cy 1, 241, .inl (fun _ => 0))), ((ma 75), .inl (cy 1, 241, .inl (upd (fun _ => 0) 0 1))), ((ma 93), .inl (cy 1, 1000, .inl (fun _ => 0))), ((ma 94), .inl (cy 3, 1001, .inl (fun _ => 0))), ((ma 95), .inl (cy 1, 1000, .inl (fun _ => 0))), ((ma 97), .inl (cy 1, 101, .inl (fun _ => 0))), ((ma 98), .inl (cy 1, 101, .inl (fun _ => 0))), ((ma 99), .inl (cy 1, 101, .inl (fun _ => 0))), ((ma 100), .inl (cy 1, 101, .inl (fun _ => 0)))] := hD
  obtain rfl : r_1 = (-1) := hw
  refine lv_aload_n hx hb dL_law_1102 rfl (lv_at hl 1 rfl) ?_
  have hPc := hP.sub (ws' := [((ma 200), mo_0 ma)]) [0] rfl
  have hDc := hD.sub (ws' := [((ma 200), mo_0 ma)]) [0] (by decide) rfl
  have hFc := va_free (wc := [((ma 200), mo_0 ma)]) hD hS hA [0] rfl
  refine va_calli (va_runV (As := []) (rest := [.int (-1)]) ⟨hx, hb, hml, hown, hts⟩ (kX12_best l D cy H.size ma) (cwV 0 hts gc_kX12_best rfl rfl rfl (by decide +kernel) ⟨Nat.le_of_ble_eq_true rfl, Nat.le_of_ble_eq_true rfl⟩) (gp_preV (RX12, TX12, 104) 12 0 hPc hDc hK hN rfl rfl) rfl rfl hl.1 rfl (lv_room (Nat.le_of_ble_eq_true rfl)) dL_law_1103 ⟨Nat.le_of_ble_eq_true rfl, Nat.le_of_ble_eq_true rfl⟩) hS (fun q _ h => hFc q h) hFc (fun r_2 u t H locs ht hvm hw hB hz1 hk1 hS => ?_)
  obtain ⟨hP, hD⟩ := gp_join (wr := []) (w1 := []) hP hD [0] [] rfl rfl (by decide) (by decide) hk1 hFc ht hB
  have hP : va_P D vwCl [] H := hP
  have hD : va_D A [] := hD
  obtain rfl : r_2 = (-1) := hw
  refine lv_icmp_eq (tgt := 1364) hx hb dL_law_1106 (by decide) (fun c_3 => ?_) (fun c_3 => absurd (by decide) c_3)
  refine lv_iinc (v := 7) (lv' := [(3, .int 7), (2, .ref (ma 200)), (1, .ref (xa 0)), (0, .ref b)]) hx hb dL_law_1364 hl (k := 0) rfl (by decide) (by decide) rfl (fun ls hl => ?_)
  refine lv_goto (tgt := 18) hx hb dL_law_1367 (by decide) ?_
  refine lv_iload_n hx hb dL_law_18 rfl (lv_at hl 0 rfl) ?_
  refine lv_aload_n hx hb dL_law_19 rfl (lv_at hl 3 rfl) ?_
  refine va_slen hx hb hX hbl hbA hS dL_law_20 ?_
  refine gp_ni 7 rfl ?_
  refine lv_bipush (v := 7) hx hb dL_law_21 (by decide) ?_
  refine lv_isub hx hb dL_law_23 ?_
  refine gp_ni 0 (by decide) ?_
  refine lv_icmp_gt (tgt := 1370) hx hb dL_law_24 (by decide) (fun c_4 => ?_) (fun c_4 => absurd (by decide) c_4)
  refine lv_iconst (v := 1) hx hb dL_law_1370 (by decide) ?_
  refine va_forget (fun q hq => hSA _ (hS.2.2 q hq)) ?_
  refine W.widen (k := 600000) (n := 7302250) (by decide) (by decide) ?_
  exact lw_ret hx hb hr hlocks dL_law_1371

set_option maxHeartbeats 4000000 in
set_option maxRecDepth 100000 in
theorem law_24 {p : Program} {e : Env} {s : State} {m : MethodId} {below : List Frame} {meth : Method} {c : Code} (l : Launch) {b : Nat} {xs : Nat → Int32} (C0 : lw_At p s m meth c b 7 xs) {D : va_G} {cy : Nat → ClassId} (hK : va_K D vwCl (gp_T cy) s) (hN : gp_N s) (xa ma : Nat → Nat) (fO : Nat → Option Nat) (hO : fO 0 = some (xa 6)) {A : Nat → Prop} (hAe : A = (fun q : Nat => s.heap.size ≤ q)) {H : Heap} {locs : List Loc} {ls : Array Slot} (hP : va_P D vwCl (lw_W cy xa ma fO) H) (hD : va_D A (lw_W cy xa ma fO)) (hS : va_S A s.heap H locs) (hl : lv_has ls 4 [(3, .int 0), (2, .ref (ma 200)), (1, .ref (xa 0)), (0, .ref b)]) : W p l e room_1 s m #[Value.ref b] below meth c H locs 153 14835 (lw_Z below #[Value.ref b] s) (F0 m 1111 ls []) := by
  obtain ⟨hx, hb, hr, hml, hown, hts, hX, hbl, hlocks, hgv⟩ := id C0
  have hown : s.vm.findClass RL = some m.cls := hown
  have hA : ∀ q : Nat, s.heap.size ≤ q → A q := fun q h => by rw [hAe]; exact h
  have hbA : ¬ A b := by rw [hAe]; exact Nat.not_le.mpr hbl
  have hSA : ∀ q : Nat, A q → s.heap.size ≤ q := fun q h => by rw [hAe] at h; exact h
  refine lv_aload_n hx hb dL_law_1111 rfl (lv_at hl 2 rfl) ?_
  refine lv_aload_n hx hb dL_law_1112 rfl (lv_at hl 3 rfl) ?_
  refine lv_iload_n hx hb dL_law_1113 rfl (lv_at hl 0 rfl) ?_
  refine lv_iconst (v := 1) hx hb dL_law_1114 (by decide) ?_
  refine lv_iadd hx hb dL_law_1115 ?_
  refine gp_ni 1 (by decide) ?_
  refine va_sld hx hb hX hbl hbA hS (by unfold vp_in; decide) dL_law_1116 ?_
  refine gp_ni (xs 1) rfl ?_
  have hPc := hP.sub (ws' := [((xa 0), .inr (11, [.ref (xa 1), .ref (xa 3), .ref (xa 7), .ref (xa 11), .ref (xa 20), .ref (xa 24), .ref (xa 25), .ref (xa 29)])), ((xa 24), .inr (4, [.int 0, .int 0, .int 0, .int 0, .int 0]))]) [0, 24] rfl
  have hDc := hD.sub (ws' := [((xa 0), .inr (11, [.ref (xa 1), .ref (xa 3), .ref (xa 7), .ref (xa 11), .ref (xa 20), .ref (xa 24), .ref (xa 25), .ref (xa 29)])), ((xa 24), .inr (4, [.int 0, .int 0, .int 0, .int 0, .int 0]))]) [0, 24] (by decide) rfl
  have hFc := va_free (wc := [((xa 0), .inr (11, [.ref (xa 1), .ref (xa 3), .ref (xa 7), .ref (xa 11), .ref (xa 20), .ref (xa 24), .ref (xa 25), .ref (xa 29)])), ((xa 24), .inr (4, [.int 0, .int 0, .int 0, .int 0, .int 0]))]) hD hS hA [0, 24] rfl
  refine va_calli (va_runV (As := [.int (xs 1)]) (rest := []) ⟨hx, hb, hml, hown, hts⟩ (kX11_take l D cy H.size xa (xs 1)) (cwV 1 hts gc_kX11_take rfl rfl rfl (by decide +kernel) ⟨Nat.le_of_ble_eq_true rfl, Nat.le_of_ble_eq_true rfl⟩) (gp_preV (RX11, TX11, 8) 11 0 hPc hDc hK hN rfl rfl) rfl rfl hl.1 rfl (lv_room (Nat.le_of_ble_eq_true rfl)) dL_law_1117 ⟨Nat.le_of_ble_eq_true rfl, Nat.le_of_ble_eq_true rfl⟩) hS (fun q _ h => hFc q h) hFc (fun r_1 u t H locs ht hvm hw hB hz1 hk1 hS => ?_)
  obtain ⟨hP, hD⟩ := gp_join (wr := [((ma 200), mo_0 ma), ((ma 11), .inl (cy 3, 8, .inl (fun _ => 0))), ((ma 12), .inl (cy 1, 8, .inl (fun _ => 0))), ((ma 13), .inl (cy 1, 8, .inl (fun _ => 0))), ((ma 14), .inl (cy 3, 12, .inl (fun _ => 0))), ((ma 15), .inl (cy 1, 12, .inl (fun _ => 0))), ((ma 16), .inl (cy 1, 12, .inl (fun _ => 0))), ((ma 17), .inl (cy 1, 12, .inl (fun _ => 0))), ((ma 18), .inl (cy 1, 12, .inl (fun _ => 0))), ((ma 19), .inl (cy 3, 12, .inl (fun _ => 0))), ((ma 20), .inl (cy 3, 8, .inl (fun _ => 0))), ((ma 21), .inl (cy 1, 8, .inl (fun _ => 0))), ((ma 22), .inl (cy 1, 8, .inl (fun _ => 0))), ((ma 23), .inl (cy 1, 8, .inl (fun _ => 0))), ((ma 24), .inl (cy 1, 8, .inl (fun _ => 0))), ((ma 33), .inl (cy 1, 600, .inl (fun _ => 0))), ((ma 68), .inl (cy 1, 8, .inl (fun _ => 0))), ((ma 69), .inl (cy 1, 8, .inl (fun _ => 0))), ((ma 70), .inl (cy 1, 8, .inl (fun _ => 0))), ((ma 73), .inl (cy 1, 241, .inl (fun _ => 0))), ((ma 74), .inl (cy 1, 241, .inl (fun _ => 0))), ((ma 75), .inl (cy 1, 241, .inl (upd (fun _ => 0) 0 1))), ((ma 93), .inl (cy 1, 1000, .inl (fun _ => 0))), ((ma 94), .inl (cy 3, 1001, .inl (fun _ => 0))), ((ma 95), .inl (cy 1, 1000, .inl (fun _ => 0))), ((ma 97), .inl (cy 1, 101, .inl (fun _ => 0))), ((ma 98), .inl (cy 1, 101, .inl (fun _ => 0))), ((ma 99), .inl (cy 1, 101, .inl (fun _ => 0))), ((ma 100), .inl (cy 1, 101, .inl (fun _ => 0)))]) (w1 := []) hP hD [0, 24] [67, 68, 69, 70, 71, 72, 73, 74, 75, 76, 77, 78, 79, 80, 81, 82, 83, 84, 85, 86, 87, 88, 89, 90, 91, 92, 93, 94, 95] rfl rfl (by decide) (by decide) hk1 hFc ht hB
  have hP : va_P D vwCl [((ma 200), mo_0 ma), ((ma 11), .inl (cy 3, 8, .inl (fun _ => 0))), ((ma 12), .inl (cy 1, 8, .inl (fun _ => 0))), ((ma 13), .inl (cy 1, 8, .inl (fun _ => 0))), ((ma 14), .inl (cy 3, 12, .inl (fun _ => 0))), ((ma 15), .inl (cy 1, 12, .inl (fun _ => 0))), ((ma 16), .inl (cy 1, 12, .inl (fun _ => 0))), ((ma 17), .inl (cy 1, 12, .inl (fun _ => 0))), ((ma 18), .inl (cy 1, 12, .inl (fun _ => 0))), ((ma 19), .inl (cy 3, 12, .inl (fun _ => 0))), ((ma 20), .inl (cy 3, 8, .inl (fun _ => 0))), ((ma 21), .inl (cy 1, 8, .inl (fun _ => 0))), ((ma 22), .inl (cy 1, 8, .inl (fun _ => 0))), ((ma 23), .inl (cy 1, 8, .inl (fun _ => 0))), ((ma 24), .inl (cy 1, 8, .inl (fun _ => 0))), ((ma 33), .inl (cy 1, 600, .inl (fun _ => 0))), ((ma 68), .inl (cy 1, 8, .inl (fun _ => 0))), ((ma 69), .inl (cy 1, 8, .inl (fun _ => 0))), ((ma 70), .inl (cy 1, 8, .inl (fun _ => 0))), ((ma 73), .inl (cy 1, 241, .inl (fun _ => 0))), ((ma 74), .inl (cy 1, 241, .inl (fun _ => 0))), ((ma 75), .inl (cy 1, 241, .inl (upd (fun _ => 0) 0 1))), ((ma 93), .inl (cy 1, 1000, .inl (fun _ => 0))), ((ma 94), .inl (cy 3, 1001, .inl (fun _ => 0))), ((ma 95), .inl (cy 1, 1000, .inl (fun _ => 0))), ((ma 97), .inl (cy 1, 101, .inl (fun _ => 0))), ((ma 98), .inl (cy 1, 101, .inl (fun _ => 0))), ((ma 99), .inl (cy 1, 101, .inl (fun _ => 0))), ((ma 100), .inl (cy 1, 101, .inl (fun _ => 0)))] H := hP
  have hD : va_D A [((ma 200), mo_0 ma), ((ma 11), .inl (cy 3, 8, .inl (fun _ => 0))), ((ma 12), .inl (cy 1, 8, .inl (fun _ => 0))), ((ma 13), .inl (cy 1, 8, .inl (fun _ => 0))), ((ma 14), .inl (cy 3, 12, .inl (fun _ => 0))), ((ma 15), .inl (cy 1, 12, .inl (fun _ => 0))), ((ma 16), .inl (cy 1, 12, .inl (fun _ => 0))), ((ma 17), .inl (cy 1, 12, .inl (fun _ => 0))), ((ma 18), .inl (cy 1, 12, .inl (fun _ => 0))), ((ma 19), .inl (cy 3, 12, .inl (fun _ => 0))), ((ma 20), .inl (cy 3, 8, .inl (fun _ => 0))), ((ma 21), .inl (cy 1, 8, .inl (fun _ => 0))), ((ma 22), .inl (cy 1, 8, .inl (fun _ => 0))), ((ma 23), .inl (cy 1, 8, .inl (fun _ => 0))), ((ma 24), .inl (cy 1, 8, .inl (fun _ => 0))), ((ma 33), .inl (cy 1, 600, .inl (fun _ => 0))), ((ma 68), .inl (cy 1, 8, .inl (fun _ => 0))), ((ma 69), .inl (cy 1, 8, .inl (fun _ => 0))), ((ma 70), .inl (cy 1, 8, .inl (fun _ => 0))), ((ma 73), .inl (cy 1, 241, .inl (fun _ => 0))), ((ma 74), .inl (cy 1, 241, .inl (fun _ => 0))), ((ma 75), .inl (cy 1, 241, .inl (upd (fun _ => 0) 0 1))), ((ma 93), .inl (cy 1, 1000, .inl (fun _ => 0))), ((ma 94), .inl (cy 3, 1001, .inl (fun _ => 0))), ((ma 95), .inl (cy 1, 1000, .inl (fun _ => 0))), ((ma 97), .inl (cy 1, 101, .inl (fun _ => 0))), ((ma 98), .inl (cy 1, 101, .inl (fun _ => 0))), ((ma 99), .inl (cy 1, 101, .inl (fun _ => 0))), ((ma 100), .inl (cy 1, 101, .inl (fun _ => 0)))] := hD
  obtain rfl : r_1 = 0 := hw
  refine lv_aload_n hx hb dL_law_1120 rfl (lv_at hl 1 rfl) ?_
  refine lv_aload_n hx hb dL_law_1121 rfl (lv_at hl 3 rfl) ?_
  refine lv_iload_n hx hb dL_law_1122 rfl (lv_at hl 0 rfl) ?_
  refine lv_iconst (v := 1) hx hb dL_law_1123 (by decide) ?_
  refine lv_iadd hx hb dL_law_1124 ?_
  refine gp_ni 1 (by decide) ?_
  refine va_sld hx hb hX hbl hbA hS (by unfold vp_in; decide) dL_law_1125 ?_
  refine gp_ni (xs 1) rfl ?_
  have hPc := hP.sub (ws' := [((ma 200), mo_0 ma)]) [0] rfl
  have hDc := hD.sub (ws' := [((ma 200), mo_0 ma)]) [0] (by decide) rfl
  have hFc := va_free (wc := [((ma 200), mo_0 ma)]) hD hS hA [0] rfl
  refine va_calli (va_runV (As := [.int (xs 1)]) (rest := [.int 0]) ⟨hx, hb, hml, hown, hts⟩ (kX12_take l D cy H.size ma (xs 1)) (cwV 1 hts gc_kX12_take rfl rfl rfl (by decide +kernel) ⟨Nat.le_of_ble_eq_true rfl, Nat.le_of_ble_eq_true rfl⟩) (gp_preV (RX12, TX12, 104) 12 0 hPc hDc hK hN rfl rfl) rfl rfl hl.1 rfl (lv_room (Nat.le_of_ble_eq_true rfl)) dL_law_1126 ⟨Nat.le_of_ble_eq_true rfl, Nat.le_of_ble_eq_true rfl⟩) hS (fun q _ h => hFc q h) hFc (fun r_2 u t H locs ht hvm hw hB hz1 hk1 hS => ?_)
  obtain ⟨hP, hD⟩ := gp_join (wr := []) (w1 := []) hP hD [0] [] rfl rfl (by decide) (by decide) hk1 hFc ht hB
  have hP : va_P D vwCl [] H := hP
  have hD : va_D A [] := hD
  obtain rfl : r_2 = 0 := hw
  refine lv_icmp_eq (tgt := 1364) hx hb dL_law_1129 (by decide) (fun c_3 => ?_) (fun c_3 => absurd (by decide) c_3)
  refine lv_iinc (v := 7) (lv' := [(3, .int 7), (2, .ref (ma 200)), (1, .ref (xa 0)), (0, .ref b)]) hx hb dL_law_1364 hl (k := 0) rfl (by decide) (by decide) rfl (fun ls hl => ?_)
  refine lv_goto (tgt := 18) hx hb dL_law_1367 (by decide) ?_
  refine lv_iload_n hx hb dL_law_18 rfl (lv_at hl 0 rfl) ?_
  refine lv_aload_n hx hb dL_law_19 rfl (lv_at hl 3 rfl) ?_
  refine va_slen hx hb hX hbl hbA hS dL_law_20 ?_
  refine gp_ni 7 rfl ?_
  refine lv_bipush (v := 7) hx hb dL_law_21 (by decide) ?_
  refine lv_isub hx hb dL_law_23 ?_
  refine gp_ni 0 (by decide) ?_
  refine lv_icmp_gt (tgt := 1370) hx hb dL_law_24 (by decide) (fun c_4 => ?_) (fun c_4 => absurd (by decide) c_4)
  refine lv_iconst (v := 1) hx hb dL_law_1370 (by decide) ?_
  refine va_forget (fun q hq => hSA _ (hS.2.2 q hq)) ?_
  refine W.widen (k := 600000) (n := 7302250) (by decide) (by decide) ?_
  exact lw_ret hx hb hr hlocks dL_law_1371

set_option maxHeartbeats 4000000 in
set_option maxRecDepth 100000 in
theorem law_25 {p : Program} {e : Env} {s : State} {m : MethodId} {below : List Frame} {meth : Method} {c : Code} (l : Launch) {b : Nat} {xs : Nat → Int32} (C0 : lw_At p s m meth c b 7 xs) {D : va_G} {cy : Nat → ClassId} (hK : va_K D vwCl (gp_T cy) s) (hN : gp_N s) (xa ma : Nat → Nat) (fO : Nat → Option Nat) (hO : fO 0 = some (xa 6)) {A : Nat → Prop} (hAe : A = (fun q : Nat => s.heap.size ≤ q)) {H : Heap} {locs : List Loc} {ls : Array Slot} (hP : va_P D vwCl (lw_W cy xa ma fO) H) (hD : va_D A (lw_W cy xa ma fO)) (hS : va_S A s.heap H locs) (hl : lv_has ls 4 [(3, .int 0), (2, .ref (ma 200)), (1, .ref (xa 0)), (0, .ref b)]) : W p l e room_1 s m #[Value.ref b] below meth c H locs 153 14835 (lw_Z below #[Value.ref b] s) (F0 m 1134 ls []) := by
  obtain ⟨hx, hb, hr, hml, hown, hts, hX, hbl, hlocks, hgv⟩ := id C0
  have hown : s.vm.findClass RL = some m.cls := hown
  have hA : ∀ q : Nat, s.heap.size ≤ q → A q := fun q h => by rw [hAe]; exact h
  have hbA : ¬ A b := by rw [hAe]; exact Nat.not_le.mpr hbl
  have hSA : ∀ q : Nat, A q → s.heap.size ≤ q := fun q h => by rw [hAe] at h; exact h
  refine lv_aload_n hx hb dL_law_1134 rfl (lv_at hl 2 rfl) ?_
  refine lv_aload_n hx hb dL_law_1135 rfl (lv_at hl 3 rfl) ?_
  refine lv_iload_n hx hb dL_law_1136 rfl (lv_at hl 0 rfl) ?_
  refine lv_iconst (v := 1) hx hb dL_law_1137 (by decide) ?_
  refine lv_iadd hx hb dL_law_1138 ?_
  refine gp_ni 1 (by decide) ?_
  refine va_sld hx hb hX hbl hbA hS (by unfold vp_in; decide) dL_law_1139 ?_
  refine gp_ni (xs 1) rfl ?_
  refine lv_aload_n hx hb dL_law_1140 rfl (lv_at hl 3 rfl) ?_
  refine lv_iload_n hx hb dL_law_1141 rfl (lv_at hl 0 rfl) ?_
  refine lv_iconst (v := 2) hx hb dL_law_1142 (by decide) ?_
  refine lv_iadd hx hb dL_law_1143 ?_
  refine gp_ni 2 (by decide) ?_
  refine va_sld hx hb hX hbl hbA hS (by unfold vp_in; decide) dL_law_1144 ?_
  refine gp_ni (xs 2) rfl ?_
  have hPc := hP.sub (ws' := [((xa 0), .inr (11, [.ref (xa 1), .ref (xa 3), .ref (xa 7), .ref (xa 11), .ref (xa 20), .ref (xa 24), .ref (xa 25), .ref (xa 29)])), ((xa 7), .inr (10, [.int 0, .ref (xa 8), .ref (xa 9), .ref (xa 10), .ref (xa 42), .ref (xa 43), .int 0])), ((xa 8), .inl (cy 1, 241, .inl (fun _ => 0))), ((xa 9), .inl (cy 1, 241, .inl (fun _ => 0))), ((xa 10), .inl (cy 3, 241, .inl (upd (fun _ => 0) 0 1))), ((xa 11), .inr (7, [.int (-50), .int 0, .int 50, .int 80, .int (-60), .int (-40), .int 60, .int (-40), .int 0, .int 4, .int 0, .ref (xa 12), .ref (xa 13), .ref (xa 14), .ref (xa 15), .ref (xa 16), .ref (xa 17), .ref (xa 18), .ref (xa 19)])), ((xa 12), .inl (cy 3, 8, .inl (fun _ => 0))), ((xa 15), .inl (cy 3, 12, .inl (fun _ => 0))), ((xa 16), .inl (cy 6, 12, .inr (.inr (.inr (.inr (fun i => if i < 12 then some (xa (100 + i)) else none)))))), ((xa 17), .inl (cy 3, 12, .inl (fun _ => 0))), ((xa 20), .inr (8, [.ref (xa 21), .int 0, .int 0, .int 0, .ref (xa 11), .ref (xa 7)])), ((xa 21), .inr (3, [.long 0, .int 0, .ref (xa 22), .ref (xa 23), .long 0, .long 0, .long 0, .long 0, .long 0, .long 0, .long 0, .long 0, .long 0, .long 0, .long 0, .long 0])), ((xa 22), .inl (cy 7, 12, .inr (.inr (.inr (.inr (fun i => if i < 12 then some (xa (140 + i)) else none)))))), ((xa 23), .inl (cy 3, 12, .inl (fun _ => 0))), ((xa 25), .inr (5, [.int 0, .ref (xa 26), .ref (xa 27), .ref (xa 28)])), ((xa 26), .inl (cy 1, 1000, .inl (fun _ => 0))), ((xa 27), .inl (cy 3, 1001, .inl (fun _ => 0))), ((xa 28), .inl (cy 3, 1001, .inl (fun _ => 0))), ((xa 100), .inl (cy 1, 4, .inl (fun _ => 0))), ((xa 101), .inl (cy 1, 4, .inl (fun _ => 0))), ((xa 102), .inl (cy 1, 4, .inl (fun _ => 0))), ((xa 103), .inl (cy 1, 4, .inl (fun _ => 0))), ((xa 104), .inl (cy 1, 4, .inl (fun _ => 0))), ((xa 105), .inl (cy 1, 4, .inl (fun _ => 0))), ((xa 106), .inl (cy 1, 4, .inl (fun _ => 0))), ((xa 107), .inl (cy 1, 4, .inl (fun _ => 0))), ((xa 108), .inl (cy 1, 4, .inl (fun _ => 0))), ((xa 109), .inl (cy 1, 4, .inl (fun _ => 0))), ((xa 110), .inl (cy 1, 4, .inl (fun _ => 0))), ((xa 111), .inl (cy 1, 4, .inl (fun _ => 0))), ((xa 140), .inl (cy 2, 4, .inr (.inl (fun _ => 0)))), ((xa 141), .inl (cy 2, 4, .inr (.inl (fun _ => 0)))), ((xa 142), .inl (cy 2, 4, .inr (.inl (fun _ => 0)))), ((xa 143), .inl (cy 2, 4, .inr (.inl (fun _ => 0)))), ((xa 144), .inl (cy 2, 4, .inr (.inl (fun _ => 0)))), ((xa 145), .inl (cy 2, 4, .inr (.inl (fun _ => 0)))), ((xa 146), .inl (cy 2, 4, .inr (.inl (fun _ => 0)))), ((xa 147), .inl (cy 2, 4, .inr (.inl (fun _ => 0)))), ((xa 148), .inl (cy 2, 4, .inr (.inl (fun _ => 0)))), ((xa 149), .inl (cy 2, 4, .inr (.inl (fun _ => 0)))), ((xa 150), .inl (cy 2, 4, .inr (.inl (fun _ => 0)))), ((xa 151), .inl (cy 2, 4, .inr (.inl (fun _ => 0))))]) [0, 7, 8, 9, 10, 11, 12, 15, 16, 17, 20, 21, 22, 23, 25, 26, 27, 28, 35, 36, 37, 38, 39, 40, 41, 42, 43, 44, 45, 46, 55, 56, 57, 58, 59, 60, 61, 62, 63, 64, 65, 66] rfl
  have hDc := hD.sub (ws' := [((xa 0), .inr (11, [.ref (xa 1), .ref (xa 3), .ref (xa 7), .ref (xa 11), .ref (xa 20), .ref (xa 24), .ref (xa 25), .ref (xa 29)])), ((xa 7), .inr (10, [.int 0, .ref (xa 8), .ref (xa 9), .ref (xa 10), .ref (xa 42), .ref (xa 43), .int 0])), ((xa 8), .inl (cy 1, 241, .inl (fun _ => 0))), ((xa 9), .inl (cy 1, 241, .inl (fun _ => 0))), ((xa 10), .inl (cy 3, 241, .inl (upd (fun _ => 0) 0 1))), ((xa 11), .inr (7, [.int (-50), .int 0, .int 50, .int 80, .int (-60), .int (-40), .int 60, .int (-40), .int 0, .int 4, .int 0, .ref (xa 12), .ref (xa 13), .ref (xa 14), .ref (xa 15), .ref (xa 16), .ref (xa 17), .ref (xa 18), .ref (xa 19)])), ((xa 12), .inl (cy 3, 8, .inl (fun _ => 0))), ((xa 15), .inl (cy 3, 12, .inl (fun _ => 0))), ((xa 16), .inl (cy 6, 12, .inr (.inr (.inr (.inr (fun i => if i < 12 then some (xa (100 + i)) else none)))))), ((xa 17), .inl (cy 3, 12, .inl (fun _ => 0))), ((xa 20), .inr (8, [.ref (xa 21), .int 0, .int 0, .int 0, .ref (xa 11), .ref (xa 7)])), ((xa 21), .inr (3, [.long 0, .int 0, .ref (xa 22), .ref (xa 23), .long 0, .long 0, .long 0, .long 0, .long 0, .long 0, .long 0, .long 0, .long 0, .long 0, .long 0, .long 0])), ((xa 22), .inl (cy 7, 12, .inr (.inr (.inr (.inr (fun i => if i < 12 then some (xa (140 + i)) else none)))))), ((xa 23), .inl (cy 3, 12, .inl (fun _ => 0))), ((xa 25), .inr (5, [.int 0, .ref (xa 26), .ref (xa 27), .ref (xa 28)])), ((xa 26), .inl (cy 1, 1000, .inl (fun _ => 0))), ((xa 27), .inl (cy 3, 1001, .inl (fun _ => 0))), ((xa 28), .inl (cy 3, 1001, .inl (fun _ => 0))), ((xa 100), .inl (cy 1, 4, .inl (fun _ => 0))), ((xa 101), .inl (cy 1, 4, .inl (fun _ => 0))), ((xa 102), .inl (cy 1, 4, .inl (fun _ => 0))), ((xa 103), .inl (cy 1, 4, .inl (fun _ => 0))), ((xa 104), .inl (cy 1, 4, .inl (fun _ => 0))), ((xa 105), .inl (cy 1, 4, .inl (fun _ => 0))), ((xa 106), .inl (cy 1, 4, .inl (fun _ => 0))), ((xa 107), .inl (cy 1, 4, .inl (fun _ => 0))), ((xa 108), .inl (cy 1, 4, .inl (fun _ => 0))), ((xa 109), .inl (cy 1, 4, .inl (fun _ => 0))), ((xa 110), .inl (cy 1, 4, .inl (fun _ => 0))), ((xa 111), .inl (cy 1, 4, .inl (fun _ => 0))), ((xa 140), .inl (cy 2, 4, .inr (.inl (fun _ => 0)))), ((xa 141), .inl (cy 2, 4, .inr (.inl (fun _ => 0)))), ((xa 142), .inl (cy 2, 4, .inr (.inl (fun _ => 0)))), ((xa 143), .inl (cy 2, 4, .inr (.inl (fun _ => 0)))), ((xa 144), .inl (cy 2, 4, .inr (.inl (fun _ => 0)))), ((xa 145), .inl (cy 2, 4, .inr (.inl (fun _ => 0)))), ((xa 146), .inl (cy 2, 4, .inr (.inl (fun _ => 0)))), ((xa 147), .inl (cy 2, 4, .inr (.inl (fun _ => 0)))), ((xa 148), .inl (cy 2, 4, .inr (.inl (fun _ => 0)))), ((xa 149), .inl (cy 2, 4, .inr (.inl (fun _ => 0)))), ((xa 150), .inl (cy 2, 4, .inr (.inl (fun _ => 0)))), ((xa 151), .inl (cy 2, 4, .inr (.inl (fun _ => 0))))]) [0, 7, 8, 9, 10, 11, 12, 15, 16, 17, 20, 21, 22, 23, 25, 26, 27, 28, 35, 36, 37, 38, 39, 40, 41, 42, 43, 44, 45, 46, 55, 56, 57, 58, 59, 60, 61, 62, 63, 64, 65, 66] (by decide) rfl
  have hFc := va_free (wc := [((xa 0), .inr (11, [.ref (xa 1), .ref (xa 3), .ref (xa 7), .ref (xa 11), .ref (xa 20), .ref (xa 24), .ref (xa 25), .ref (xa 29)])), ((xa 7), .inr (10, [.int 0, .ref (xa 8), .ref (xa 9), .ref (xa 10), .ref (xa 42), .ref (xa 43), .int 0])), ((xa 8), .inl (cy 1, 241, .inl (fun _ => 0))), ((xa 9), .inl (cy 1, 241, .inl (fun _ => 0))), ((xa 10), .inl (cy 3, 241, .inl (upd (fun _ => 0) 0 1))), ((xa 11), .inr (7, [.int (-50), .int 0, .int 50, .int 80, .int (-60), .int (-40), .int 60, .int (-40), .int 0, .int 4, .int 0, .ref (xa 12), .ref (xa 13), .ref (xa 14), .ref (xa 15), .ref (xa 16), .ref (xa 17), .ref (xa 18), .ref (xa 19)])), ((xa 12), .inl (cy 3, 8, .inl (fun _ => 0))), ((xa 15), .inl (cy 3, 12, .inl (fun _ => 0))), ((xa 16), .inl (cy 6, 12, .inr (.inr (.inr (.inr (fun i => if i < 12 then some (xa (100 + i)) else none)))))), ((xa 17), .inl (cy 3, 12, .inl (fun _ => 0))), ((xa 20), .inr (8, [.ref (xa 21), .int 0, .int 0, .int 0, .ref (xa 11), .ref (xa 7)])), ((xa 21), .inr (3, [.long 0, .int 0, .ref (xa 22), .ref (xa 23), .long 0, .long 0, .long 0, .long 0, .long 0, .long 0, .long 0, .long 0, .long 0, .long 0, .long 0, .long 0])), ((xa 22), .inl (cy 7, 12, .inr (.inr (.inr (.inr (fun i => if i < 12 then some (xa (140 + i)) else none)))))), ((xa 23), .inl (cy 3, 12, .inl (fun _ => 0))), ((xa 25), .inr (5, [.int 0, .ref (xa 26), .ref (xa 27), .ref (xa 28)])), ((xa 26), .inl (cy 1, 1000, .inl (fun _ => 0))), ((xa 27), .inl (cy 3, 1001, .inl (fun _ => 0))), ((xa 28), .inl (cy 3, 1001, .inl (fun _ => 0))), ((xa 100), .inl (cy 1, 4, .inl (fun _ => 0))), ((xa 101), .inl (cy 1, 4, .inl (fun _ => 0))), ((xa 102), .inl (cy 1, 4, .inl (fun _ => 0))), ((xa 103), .inl (cy 1, 4, .inl (fun _ => 0))), ((xa 104), .inl (cy 1, 4, .inl (fun _ => 0))), ((xa 105), .inl (cy 1, 4, .inl (fun _ => 0))), ((xa 106), .inl (cy 1, 4, .inl (fun _ => 0))), ((xa 107), .inl (cy 1, 4, .inl (fun _ => 0))), ((xa 108), .inl (cy 1, 4, .inl (fun _ => 0))), ((xa 109), .inl (cy 1, 4, .inl (fun _ => 0))), ((xa 110), .inl (cy 1, 4, .inl (fun _ => 0))), ((xa 111), .inl (cy 1, 4, .inl (fun _ => 0))), ((xa 140), .inl (cy 2, 4, .inr (.inl (fun _ => 0)))), ((xa 141), .inl (cy 2, 4, .inr (.inl (fun _ => 0)))), ((xa 142), .inl (cy 2, 4, .inr (.inl (fun _ => 0)))), ((xa 143), .inl (cy 2, 4, .inr (.inl (fun _ => 0)))), ((xa 144), .inl (cy 2, 4, .inr (.inl (fun _ => 0)))), ((xa 145), .inl (cy 2, 4, .inr (.inl (fun _ => 0)))), ((xa 146), .inl (cy 2, 4, .inr (.inl (fun _ => 0)))), ((xa 147), .inl (cy 2, 4, .inr (.inl (fun _ => 0)))), ((xa 148), .inl (cy 2, 4, .inr (.inl (fun _ => 0)))), ((xa 149), .inl (cy 2, 4, .inr (.inl (fun _ => 0)))), ((xa 150), .inl (cy 2, 4, .inr (.inl (fun _ => 0)))), ((xa 151), .inl (cy 2, 4, .inr (.inl (fun _ => 0))))]) hD hS hA [0, 7, 8, 9, 10, 11, 12, 15, 16, 17, 20, 21, 22, 23, 25, 26, 27, 28, 35, 36, 37, 38, 39, 40, 41, 42, 43, 44, 45, 46, 55, 56, 57, 58, 59, 60, 61, 62, 63, 64, 65, 66] rfl
  refine va_calli (va_runV (As := [.int (xs 1), .int (xs 2)]) (rest := []) ⟨hx, hb, hml, hown, hts⟩ (kX11_joins l D cy H.size xa (xs 1) (xs 2)) (cwV 2 hts gc_kX11_joins rfl rfl rfl (by decide +kernel) ⟨Nat.le_of_ble_eq_true rfl, Nat.le_of_ble_eq_true rfl⟩) (gp_preV (RX11, TX11, 8) 11 0 hPc hDc hK hN rfl rfl) rfl rfl hl.1 rfl (lv_room (Nat.le_of_ble_eq_true rfl)) dL_law_1145 ⟨Nat.le_of_ble_eq_true rfl, Nat.le_of_ble_eq_true rfl⟩) hS (fun q _ h => hFc q h) hFc (fun r_1 u t H locs ht hvm hw hB hz1 hk1 hS => ?_)
  obtain ⟨hP, hD⟩ := gp_join (wr := [((ma 200), mo_0 ma), ((ma 11), .inl (cy 3, 8, .inl (fun _ => 0))), ((ma 12), .inl (cy 1, 8, .inl (fun _ => 0))), ((ma 13), .inl (cy 1, 8, .inl (fun _ => 0))), ((ma 14), .inl (cy 3, 12, .inl (fun _ => 0))), ((ma 15), .inl (cy 1, 12, .inl (fun _ => 0))), ((ma 16), .inl (cy 1, 12, .inl (fun _ => 0))), ((ma 17), .inl (cy 1, 12, .inl (fun _ => 0))), ((ma 18), .inl (cy 1, 12, .inl (fun _ => 0))), ((ma 19), .inl (cy 3, 12, .inl (fun _ => 0))), ((ma 20), .inl (cy 3, 8, .inl (fun _ => 0))), ((ma 21), .inl (cy 1, 8, .inl (fun _ => 0))), ((ma 22), .inl (cy 1, 8, .inl (fun _ => 0))), ((ma 23), .inl (cy 1, 8, .inl (fun _ => 0))), ((ma 24), .inl (cy 1, 8, .inl (fun _ => 0))), ((ma 33), .inl (cy 1, 600, .inl (fun _ => 0))), ((ma 68), .inl (cy 1, 8, .inl (fun _ => 0))), ((ma 69), .inl (cy 1, 8, .inl (fun _ => 0))), ((ma 70), .inl (cy 1, 8, .inl (fun _ => 0))), ((ma 73), .inl (cy 1, 241, .inl (fun _ => 0))), ((ma 74), .inl (cy 1, 241, .inl (fun _ => 0))), ((ma 75), .inl (cy 1, 241, .inl (upd (fun _ => 0) 0 1))), ((ma 93), .inl (cy 1, 1000, .inl (fun _ => 0))), ((ma 94), .inl (cy 3, 1001, .inl (fun _ => 0))), ((ma 95), .inl (cy 1, 1000, .inl (fun _ => 0))), ((ma 97), .inl (cy 1, 101, .inl (fun _ => 0))), ((ma 98), .inl (cy 1, 101, .inl (fun _ => 0))), ((ma 99), .inl (cy 1, 101, .inl (fun _ => 0))), ((ma 100), .inl (cy 1, 101, .inl (fun _ => 0)))]) (w1 := []) hP hD [0, 7, 8, 9, 10, 11, 12, 15, 16, 17, 20, 21, 22, 23, 25, 26, 27, 28, 35, 36, 37, 38, 39, 40, 41, 42, 43, 44, 45, 46, 55, 56, 57, 58, 59, 60, 61, 62, 63, 64, 65, 66] [67, 68, 69, 70, 71, 72, 73, 74, 75, 76, 77, 78, 79, 80, 81, 82, 83, 84, 85, 86, 87, 88, 89, 90, 91, 92, 93, 94, 95] rfl rfl (by decide) (by decide) hk1 hFc ht hB
  have hP : va_P D vwCl [((ma 200), mo_0 ma), ((ma 11), .inl (cy 3, 8, .inl (fun _ => 0))), ((ma 12), .inl (cy 1, 8, .inl (fun _ => 0))), ((ma 13), .inl (cy 1, 8, .inl (fun _ => 0))), ((ma 14), .inl (cy 3, 12, .inl (fun _ => 0))), ((ma 15), .inl (cy 1, 12, .inl (fun _ => 0))), ((ma 16), .inl (cy 1, 12, .inl (fun _ => 0))), ((ma 17), .inl (cy 1, 12, .inl (fun _ => 0))), ((ma 18), .inl (cy 1, 12, .inl (fun _ => 0))), ((ma 19), .inl (cy 3, 12, .inl (fun _ => 0))), ((ma 20), .inl (cy 3, 8, .inl (fun _ => 0))), ((ma 21), .inl (cy 1, 8, .inl (fun _ => 0))), ((ma 22), .inl (cy 1, 8, .inl (fun _ => 0))), ((ma 23), .inl (cy 1, 8, .inl (fun _ => 0))), ((ma 24), .inl (cy 1, 8, .inl (fun _ => 0))), ((ma 33), .inl (cy 1, 600, .inl (fun _ => 0))), ((ma 68), .inl (cy 1, 8, .inl (fun _ => 0))), ((ma 69), .inl (cy 1, 8, .inl (fun _ => 0))), ((ma 70), .inl (cy 1, 8, .inl (fun _ => 0))), ((ma 73), .inl (cy 1, 241, .inl (fun _ => 0))), ((ma 74), .inl (cy 1, 241, .inl (fun _ => 0))), ((ma 75), .inl (cy 1, 241, .inl (upd (fun _ => 0) 0 1))), ((ma 93), .inl (cy 1, 1000, .inl (fun _ => 0))), ((ma 94), .inl (cy 3, 1001, .inl (fun _ => 0))), ((ma 95), .inl (cy 1, 1000, .inl (fun _ => 0))), ((ma 97), .inl (cy 1, 101, .inl (fun _ => 0))), ((ma 98), .inl (cy 1, 101, .inl (fun _ => 0))), ((ma 99), .inl (cy 1, 101, .inl (fun _ => 0))), ((ma 100), .inl (cy 1, 101, .inl (fun _ => 0)))] H := hP
  have hD : va_D A [((ma 200), mo_0 ma), ((ma 11), .inl (cy 3, 8, .inl (fun _ => 0))), ((ma 12), .inl (cy 1, 8, .inl (fun _ => 0))), ((ma 13), .inl (cy 1, 8, .inl (fun _ => 0))), ((ma 14), .inl (cy 3, 12, .inl (fun _ => 0))), ((ma 15), .inl (cy 1, 12, .inl (fun _ => 0))), ((ma 16), .inl (cy 1, 12, .inl (fun _ => 0))), ((ma 17), .inl (cy 1, 12, .inl (fun _ => 0))), ((ma 18), .inl (cy 1, 12, .inl (fun _ => 0))), ((ma 19), .inl (cy 3, 12, .inl (fun _ => 0))), ((ma 20), .inl (cy 3, 8, .inl (fun _ => 0))), ((ma 21), .inl (cy 1, 8, .inl (fun _ => 0))), ((ma 22), .inl (cy 1, 8, .inl (fun _ => 0))), ((ma 23), .inl (cy 1, 8, .inl (fun _ => 0))), ((ma 24), .inl (cy 1, 8, .inl (fun _ => 0))), ((ma 33), .inl (cy 1, 600, .inl (fun _ => 0))), ((ma 68), .inl (cy 1, 8, .inl (fun _ => 0))), ((ma 69), .inl (cy 1, 8, .inl (fun _ => 0))), ((ma 70), .inl (cy 1, 8, .inl (fun _ => 0))), ((ma 73), .inl (cy 1, 241, .inl (fun _ => 0))), ((ma 74), .inl (cy 1, 241, .inl (fun _ => 0))), ((ma 75), .inl (cy 1, 241, .inl (upd (fun _ => 0) 0 1))), ((ma 93), .inl (cy 1, 1000, .inl (fun _ => 0))), ((ma 94), .inl (cy 3, 1001, .inl (fun _ => 0))), ((ma 95), .inl (cy 1, 1000, .inl (fun _ => 0))), ((ma 97), .inl (cy 1, 101, .inl (fun _ => 0))), ((ma 98), .inl (cy 1, 101, .inl (fun _ => 0))), ((ma 99), .inl (cy 1, 101, .inl (fun _ => 0))), ((ma 100), .inl (cy 1, 101, .inl (fun _ => 0)))] := hD
  have w_2 := hw
  refine lv_aload_n hx hb dL_law_1148 rfl (lv_at hl 1 rfl) ?_
  refine lv_aload_n hx hb dL_law_1149 rfl (lv_at hl 3 rfl) ?_
  refine lv_iload_n hx hb dL_law_1150 rfl (lv_at hl 0 rfl) ?_
  refine lv_iconst (v := 1) hx hb dL_law_1151 (by decide) ?_
  refine lv_iadd hx hb dL_law_1152 ?_
  refine gp_ni 1 (by decide) ?_
  refine va_sld hx hb hX hbl hbA hS (by unfold vp_in; decide) dL_law_1153 ?_
  refine gp_ni (xs 1) rfl ?_
  refine lv_aload_n hx hb dL_law_1154 rfl (lv_at hl 3 rfl) ?_
  refine lv_iload_n hx hb dL_law_1155 rfl (lv_at hl 0 rfl) ?_
  refine lv_iconst (v := 2) hx hb dL_law_1156 (by decide) ?_
  refine lv_iadd hx hb dL_law_1157 ?_
  refine gp_ni 2 (by decide) ?_
  refine va_sld hx hb hX hbl hbA hS (by unfold vp_in; decide) dL_law_1158 ?_
  refine gp_ni (xs 2) rfl ?_
  have hPc := hP.sub (ws' := [((ma 200), mo_0 ma), ((ma 11), .inl (cy 3, 8, .inl (fun _ => 0))), ((ma 75), .inl (cy 1, 241, .inl (upd (fun _ => 0) 0 1))), ((ma 94), .inl (cy 3, 1001, .inl (fun _ => 0))), ((ma 95), .inl (cy 1, 1000, .inl (fun _ => 0))), ((ma 93), .inl (cy 1, 1000, .inl (fun _ => 0)))]) [0, 1, 21, 23, 24, 22] rfl
  have hDc := hD.sub (ws' := [((ma 200), mo_0 ma), ((ma 11), .inl (cy 3, 8, .inl (fun _ => 0))), ((ma 75), .inl (cy 1, 241, .inl (upd (fun _ => 0) 0 1))), ((ma 94), .inl (cy 3, 1001, .inl (fun _ => 0))), ((ma 95), .inl (cy 1, 1000, .inl (fun _ => 0))), ((ma 93), .inl (cy 1, 1000, .inl (fun _ => 0)))]) [0, 1, 21, 23, 24, 22] (by decide) rfl
  have hFc := va_free (wc := [((ma 200), mo_0 ma), ((ma 11), .inl (cy 3, 8, .inl (fun _ => 0))), ((ma 75), .inl (cy 1, 241, .inl (upd (fun _ => 0) 0 1))), ((ma 94), .inl (cy 3, 1001, .inl (fun _ => 0))), ((ma 95), .inl (cy 1, 1000, .inl (fun _ => 0))), ((ma 93), .inl (cy 1, 1000, .inl (fun _ => 0)))]) hD hS hA [0, 1, 21, 23, 24, 22] rfl
  refine va_calli (va_runV (As := [.int (xs 1), .int (xs 2)]) (rest := [.int r_1]) ⟨hx, hb, hml, hown, hts⟩ (kX12_joins l D cy H.size ma (xs 1) (xs 2)) (cwV 2 hts gc_kX12_joins rfl rfl rfl (by decide +kernel) ⟨Nat.le_of_ble_eq_true rfl, Nat.le_of_ble_eq_true rfl⟩) (gp_preV (RX12, TX12, 104) 12 0 hPc hDc hK hN rfl rfl) rfl rfl hl.1 rfl (lv_room (Nat.le_of_ble_eq_true rfl)) dL_law_1159 ⟨Nat.le_of_ble_eq_true rfl, Nat.le_of_ble_eq_true rfl⟩) hS (fun q _ h => hFc q h) hFc (fun r_3 u t H locs ht hvm hw hB hz1 hk1 hS => ?_)
  obtain ⟨hP, hD⟩ := gp_join (wr := []) (w1 := []) hP hD [0, 1, 21, 23, 24, 22] [] rfl rfl (by decide) (by decide) hk1 hFc ht hB
  have hP : va_P D vwCl [] H := hP
  have hD : va_D A [] := hD
  have w_4 := hw
  refine lv_icmp_eq (tgt := 1364) hx hb dL_law_1162 (by decide) (fun c_5 => ?_) (fun c_5 => absurd (sp_joins_one w_2 w_4) c_5)
  refine lv_iinc (v := 7) (lv' := [(3, .int 7), (2, .ref (ma 200)), (1, .ref (xa 0)), (0, .ref b)]) hx hb dL_law_1364 hl (k := 0) rfl (by decide) (by decide) rfl (fun ls hl => ?_)
  refine lv_goto (tgt := 18) hx hb dL_law_1367 (by decide) ?_
  refine lv_iload_n hx hb dL_law_18 rfl (lv_at hl 0 rfl) ?_
  refine lv_aload_n hx hb dL_law_19 rfl (lv_at hl 3 rfl) ?_
  refine va_slen hx hb hX hbl hbA hS dL_law_20 ?_
  refine gp_ni 7 rfl ?_
  refine lv_bipush (v := 7) hx hb dL_law_21 (by decide) ?_
  refine lv_isub hx hb dL_law_23 ?_
  refine gp_ni 0 (by decide) ?_
  refine lv_icmp_gt (tgt := 1370) hx hb dL_law_24 (by decide) (fun c_6 => ?_) (fun c_6 => absurd (by decide) c_6)
  refine lv_iconst (v := 1) hx hb dL_law_1370 (by decide) ?_
  refine va_forget (fun q hq => hSA _ (hS.2.2 q hq)) ?_
  refine W.widen (k := 600000) (n := 7302250) (by decide) (by decide) ?_
  exact lw_ret hx hb hr hlocks dL_law_1371

set_option maxHeartbeats 4000000 in
set_option maxRecDepth 100000 in
theorem law_26 {p : Program} {e : Env} {s : State} {m : MethodId} {below : List Frame} {meth : Method} {c : Code} (l : Launch) {b : Nat} {xs : Nat → Int32} (C0 : lw_At p s m meth c b 7 xs) {D : va_G} {cy : Nat → ClassId} (hK : va_K D vwCl (gp_T cy) s) (hN : gp_N s) (xa ma : Nat → Nat) (fO : Nat → Option Nat) (hO : fO 0 = some (xa 6)) {A : Nat → Prop} (hAe : A = (fun q : Nat => s.heap.size ≤ q)) {H : Heap} {locs : List Loc} {ls : Array Slot} (hP : va_P D vwCl (lw_W cy xa ma fO) H) (hD : va_D A (lw_W cy xa ma fO)) (hS : va_S A s.heap H locs) (hl : lv_has ls 4 [(3, .int 0), (2, .ref (ma 200)), (1, .ref (xa 0)), (0, .ref b)]) : W p l e room_1 s m #[Value.ref b] below meth c H locs 153 14835 (lw_Z below #[Value.ref b] s) (F0 m 1167 ls []) := by
  obtain ⟨hx, hb, hr, hml, hown, hts, hX, hbl, hlocks, hgv⟩ := id C0
  have hown : s.vm.findClass RL = some m.cls := hown
  have hA : ∀ q : Nat, s.heap.size ≤ q → A q := fun q h => by rw [hAe]; exact h
  have hbA : ¬ A b := by rw [hAe]; exact Nat.not_le.mpr hbl
  have hSA : ∀ q : Nat, A q → s.heap.size ≤ q := fun q h => by rw [hAe] at h; exact h
  refine lv_aload_n hx hb dL_law_1167 rfl (lv_at hl 2 rfl) ?_
  refine lv_aload_n hx hb dL_law_1168 rfl (lv_at hl 3 rfl) ?_
  refine lv_iload_n hx hb dL_law_1169 rfl (lv_at hl 0 rfl) ?_
  refine lv_iconst (v := 1) hx hb dL_law_1170 (by decide) ?_
  refine lv_iadd hx hb dL_law_1171 ?_
  refine gp_ni 1 (by decide) ?_
  refine va_sld hx hb hX hbl hbA hS (by unfold vp_in; decide) dL_law_1172 ?_
  refine gp_ni (xs 1) rfl ?_
  have hPc := hP.sub (ws' := [((xa 0), .inr (11, [.ref (xa 1), .ref (xa 3), .ref (xa 7), .ref (xa 11), .ref (xa 20), .ref (xa 24), .ref (xa 25), .ref (xa 29)])), ((xa 25), .inr (5, [.int 0, .ref (xa 26), .ref (xa 27), .ref (xa 28)]))]) [0, 25] rfl
  have hDc := hD.sub (ws' := [((xa 0), .inr (11, [.ref (xa 1), .ref (xa 3), .ref (xa 7), .ref (xa 11), .ref (xa 20), .ref (xa 24), .ref (xa 25), .ref (xa 29)])), ((xa 25), .inr (5, [.int 0, .ref (xa 26), .ref (xa 27), .ref (xa 28)]))]) [0, 25] (by decide) rfl
  have hFc := va_free (wc := [((xa 0), .inr (11, [.ref (xa 1), .ref (xa 3), .ref (xa 7), .ref (xa 11), .ref (xa 20), .ref (xa 24), .ref (xa 25), .ref (xa 29)])), ((xa 25), .inr (5, [.int 0, .ref (xa 26), .ref (xa 27), .ref (xa 28)]))]) hD hS hA [0, 25] rfl
  refine va_calli (va_runV (As := [.int (xs 1)]) (rest := []) ⟨hx, hb, hml, hown, hts⟩ (kX11_join l D cy H.size xa (xs 1)) (cwV 1 hts gc_kX11_join rfl rfl rfl (by decide +kernel) ⟨Nat.le_of_ble_eq_true rfl, Nat.le_of_ble_eq_true rfl⟩) (gp_preV (RX11, TX11, 8) 11 0 hPc hDc hK hN rfl rfl) rfl rfl hl.1 rfl (lv_room (Nat.le_of_ble_eq_true rfl)) dL_law_1173 ⟨Nat.le_of_ble_eq_true rfl, Nat.le_of_ble_eq_true rfl⟩) hS (fun q _ h => hFc q h) hFc (fun r_1 u t H locs ht hvm hw hB hz1 hk1 hS => ?_)
  obtain ⟨hP, hD⟩ := gp_join (wr := [((ma 200), mo_0 ma), ((ma 11), .inl (cy 3, 8, .inl (fun _ => 0))), ((ma 12), .inl (cy 1, 8, .inl (fun _ => 0))), ((ma 13), .inl (cy 1, 8, .inl (fun _ => 0))), ((ma 14), .inl (cy 3, 12, .inl (fun _ => 0))), ((ma 15), .inl (cy 1, 12, .inl (fun _ => 0))), ((ma 16), .inl (cy 1, 12, .inl (fun _ => 0))), ((ma 17), .inl (cy 1, 12, .inl (fun _ => 0))), ((ma 18), .inl (cy 1, 12, .inl (fun _ => 0))), ((ma 19), .inl (cy 3, 12, .inl (fun _ => 0))), ((ma 20), .inl (cy 3, 8, .inl (fun _ => 0))), ((ma 21), .inl (cy 1, 8, .inl (fun _ => 0))), ((ma 22), .inl (cy 1, 8, .inl (fun _ => 0))), ((ma 23), .inl (cy 1, 8, .inl (fun _ => 0))), ((ma 24), .inl (cy 1, 8, .inl (fun _ => 0))), ((ma 33), .inl (cy 1, 600, .inl (fun _ => 0))), ((ma 68), .inl (cy 1, 8, .inl (fun _ => 0))), ((ma 69), .inl (cy 1, 8, .inl (fun _ => 0))), ((ma 70), .inl (cy 1, 8, .inl (fun _ => 0))), ((ma 73), .inl (cy 1, 241, .inl (fun _ => 0))), ((ma 74), .inl (cy 1, 241, .inl (fun _ => 0))), ((ma 75), .inl (cy 1, 241, .inl (upd (fun _ => 0) 0 1))), ((ma 93), .inl (cy 1, 1000, .inl (fun _ => 0))), ((ma 94), .inl (cy 3, 1001, .inl (fun _ => 0))), ((ma 95), .inl (cy 1, 1000, .inl (fun _ => 0))), ((ma 97), .inl (cy 1, 101, .inl (fun _ => 0))), ((ma 98), .inl (cy 1, 101, .inl (fun _ => 0))), ((ma 99), .inl (cy 1, 101, .inl (fun _ => 0))), ((ma 100), .inl (cy 1, 101, .inl (fun _ => 0)))]) (w1 := []) hP hD [0, 25] [67, 68, 69, 70, 71, 72, 73, 74, 75, 76, 77, 78, 79, 80, 81, 82, 83, 84, 85, 86, 87, 88, 89, 90, 91, 92, 93, 94, 95] rfl rfl (by decide) (by decide) hk1 hFc ht hB
  have hP : va_P D vwCl [((ma 200), mo_0 ma), ((ma 11), .inl (cy 3, 8, .inl (fun _ => 0))), ((ma 12), .inl (cy 1, 8, .inl (fun _ => 0))), ((ma 13), .inl (cy 1, 8, .inl (fun _ => 0))), ((ma 14), .inl (cy 3, 12, .inl (fun _ => 0))), ((ma 15), .inl (cy 1, 12, .inl (fun _ => 0))), ((ma 16), .inl (cy 1, 12, .inl (fun _ => 0))), ((ma 17), .inl (cy 1, 12, .inl (fun _ => 0))), ((ma 18), .inl (cy 1, 12, .inl (fun _ => 0))), ((ma 19), .inl (cy 3, 12, .inl (fun _ => 0))), ((ma 20), .inl (cy 3, 8, .inl (fun _ => 0))), ((ma 21), .inl (cy 1, 8, .inl (fun _ => 0))), ((ma 22), .inl (cy 1, 8, .inl (fun _ => 0))), ((ma 23), .inl (cy 1, 8, .inl (fun _ => 0))), ((ma 24), .inl (cy 1, 8, .inl (fun _ => 0))), ((ma 33), .inl (cy 1, 600, .inl (fun _ => 0))), ((ma 68), .inl (cy 1, 8, .inl (fun _ => 0))), ((ma 69), .inl (cy 1, 8, .inl (fun _ => 0))), ((ma 70), .inl (cy 1, 8, .inl (fun _ => 0))), ((ma 73), .inl (cy 1, 241, .inl (fun _ => 0))), ((ma 74), .inl (cy 1, 241, .inl (fun _ => 0))), ((ma 75), .inl (cy 1, 241, .inl (upd (fun _ => 0) 0 1))), ((ma 93), .inl (cy 1, 1000, .inl (fun _ => 0))), ((ma 94), .inl (cy 3, 1001, .inl (fun _ => 0))), ((ma 95), .inl (cy 1, 1000, .inl (fun _ => 0))), ((ma 97), .inl (cy 1, 101, .inl (fun _ => 0))), ((ma 98), .inl (cy 1, 101, .inl (fun _ => 0))), ((ma 99), .inl (cy 1, 101, .inl (fun _ => 0))), ((ma 100), .inl (cy 1, 101, .inl (fun _ => 0)))] H := hP
  have hD : va_D A [((ma 200), mo_0 ma), ((ma 11), .inl (cy 3, 8, .inl (fun _ => 0))), ((ma 12), .inl (cy 1, 8, .inl (fun _ => 0))), ((ma 13), .inl (cy 1, 8, .inl (fun _ => 0))), ((ma 14), .inl (cy 3, 12, .inl (fun _ => 0))), ((ma 15), .inl (cy 1, 12, .inl (fun _ => 0))), ((ma 16), .inl (cy 1, 12, .inl (fun _ => 0))), ((ma 17), .inl (cy 1, 12, .inl (fun _ => 0))), ((ma 18), .inl (cy 1, 12, .inl (fun _ => 0))), ((ma 19), .inl (cy 3, 12, .inl (fun _ => 0))), ((ma 20), .inl (cy 3, 8, .inl (fun _ => 0))), ((ma 21), .inl (cy 1, 8, .inl (fun _ => 0))), ((ma 22), .inl (cy 1, 8, .inl (fun _ => 0))), ((ma 23), .inl (cy 1, 8, .inl (fun _ => 0))), ((ma 24), .inl (cy 1, 8, .inl (fun _ => 0))), ((ma 33), .inl (cy 1, 600, .inl (fun _ => 0))), ((ma 68), .inl (cy 1, 8, .inl (fun _ => 0))), ((ma 69), .inl (cy 1, 8, .inl (fun _ => 0))), ((ma 70), .inl (cy 1, 8, .inl (fun _ => 0))), ((ma 73), .inl (cy 1, 241, .inl (fun _ => 0))), ((ma 74), .inl (cy 1, 241, .inl (fun _ => 0))), ((ma 75), .inl (cy 1, 241, .inl (upd (fun _ => 0) 0 1))), ((ma 93), .inl (cy 1, 1000, .inl (fun _ => 0))), ((ma 94), .inl (cy 3, 1001, .inl (fun _ => 0))), ((ma 95), .inl (cy 1, 1000, .inl (fun _ => 0))), ((ma 97), .inl (cy 1, 101, .inl (fun _ => 0))), ((ma 98), .inl (cy 1, 101, .inl (fun _ => 0))), ((ma 99), .inl (cy 1, 101, .inl (fun _ => 0))), ((ma 100), .inl (cy 1, 101, .inl (fun _ => 0)))] := hD
  obtain rfl : r_1 = (-1) := hw
  refine lv_aload_n hx hb dL_law_1176 rfl (lv_at hl 1 rfl) ?_
  refine lv_aload_n hx hb dL_law_1177 rfl (lv_at hl 3 rfl) ?_
  refine lv_iload_n hx hb dL_law_1178 rfl (lv_at hl 0 rfl) ?_
  refine lv_iconst (v := 1) hx hb dL_law_1179 (by decide) ?_
  refine lv_iadd hx hb dL_law_1180 ?_
  refine gp_ni 1 (by decide) ?_
  refine va_sld hx hb hX hbl hbA hS (by unfold vp_in; decide) dL_law_1181 ?_
  refine gp_ni (xs 1) rfl ?_
  have hPc := hP.sub (ws' := [((ma 200), mo_0 ma)]) [0] rfl
  have hDc := hD.sub (ws' := [((ma 200), mo_0 ma)]) [0] (by decide) rfl
  have hFc := va_free (wc := [((ma 200), mo_0 ma)]) hD hS hA [0] rfl
  refine va_calli (va_runV (As := [.int (xs 1)]) (rest := [.int (-1)]) ⟨hx, hb, hml, hown, hts⟩ (kX12_join l D cy H.size ma (xs 1)) (cwV 1 hts gc_kX12_join rfl rfl rfl (by decide +kernel) ⟨Nat.le_of_ble_eq_true rfl, Nat.le_of_ble_eq_true rfl⟩) (gp_preV (RX12, TX12, 104) 12 0 hPc hDc hK hN rfl rfl) rfl rfl hl.1 rfl (lv_room (Nat.le_of_ble_eq_true rfl)) dL_law_1182 ⟨Nat.le_of_ble_eq_true rfl, Nat.le_of_ble_eq_true rfl⟩) hS (fun q _ h => hFc q h) hFc (fun r_2 u t H locs ht hvm hw hB hz1 hk1 hS => ?_)
  obtain ⟨hP, hD⟩ := gp_join (wr := []) (w1 := []) hP hD [0] [] rfl rfl (by decide) (by decide) hk1 hFc ht hB
  have hP : va_P D vwCl [] H := hP
  have hD : va_D A [] := hD
  obtain rfl : r_2 = (-1) := hw
  refine lv_icmp_eq (tgt := 1364) hx hb dL_law_1185 (by decide) (fun c_3 => ?_) (fun c_3 => absurd (by decide) c_3)
  refine lv_iinc (v := 7) (lv' := [(3, .int 7), (2, .ref (ma 200)), (1, .ref (xa 0)), (0, .ref b)]) hx hb dL_law_1364 hl (k := 0) rfl (by decide) (by decide) rfl (fun ls hl => ?_)
  refine lv_goto (tgt := 18) hx hb dL_law_1367 (by decide) ?_
  refine lv_iload_n hx hb dL_law_18 rfl (lv_at hl 0 rfl) ?_
  refine lv_aload_n hx hb dL_law_19 rfl (lv_at hl 3 rfl) ?_
  refine va_slen hx hb hX hbl hbA hS dL_law_20 ?_
  refine gp_ni 7 rfl ?_
  refine lv_bipush (v := 7) hx hb dL_law_21 (by decide) ?_
  refine lv_isub hx hb dL_law_23 ?_
  refine gp_ni 0 (by decide) ?_
  refine lv_icmp_gt (tgt := 1370) hx hb dL_law_24 (by decide) (fun c_4 => ?_) (fun c_4 => absurd (by decide) c_4)
  refine lv_iconst (v := 1) hx hb dL_law_1370 (by decide) ?_
  refine va_forget (fun q hq => hSA _ (hS.2.2 q hq)) ?_
  refine W.widen (k := 600000) (n := 7302250) (by decide) (by decide) ?_
  exact lw_ret hx hb hr hlocks dL_law_1371

set_option maxHeartbeats 4000000 in
set_option maxRecDepth 100000 in
theorem law_27 {p : Program} {e : Env} {s : State} {m : MethodId} {below : List Frame} {meth : Method} {c : Code} (l : Launch) {b : Nat} {xs : Nat → Int32} (C0 : lw_At p s m meth c b 7 xs) {D : va_G} {cy : Nat → ClassId} (hK : va_K D vwCl (gp_T cy) s) (hN : gp_N s) (xa ma : Nat → Nat) (fO : Nat → Option Nat) (hO : fO 0 = some (xa 6)) {A : Nat → Prop} (hAe : A = (fun q : Nat => s.heap.size ≤ q)) {H : Heap} {locs : List Loc} {ls : Array Slot} (hP : va_P D vwCl (lw_W cy xa ma fO) H) (hD : va_D A (lw_W cy xa ma fO)) (hS : va_S A s.heap H locs) (hl : lv_has ls 4 [(3, .int 0), (2, .ref (ma 200)), (1, .ref (xa 0)), (0, .ref b)]) : W p l e room_1 s m #[Value.ref b] below meth c H locs 153 14835 (lw_Z below #[Value.ref b] s) (F0 m 1190 ls []) := by
  obtain ⟨hx, hb, hr, hml, hown, hts, hX, hbl, hlocks, hgv⟩ := id C0
  have hown : s.vm.findClass RL = some m.cls := hown
  have hA : ∀ q : Nat, s.heap.size ≤ q → A q := fun q h => by rw [hAe]; exact h
  have hbA : ¬ A b := by rw [hAe]; exact Nat.not_le.mpr hbl
  have hSA : ∀ q : Nat, A q → s.heap.size ≤ q := fun q h => by rw [hAe] at h; exact h
  refine lv_aload_n hx hb dL_law_1190 rfl (lv_at hl 2 rfl) ?_
  refine lv_aload_n hx hb dL_law_1191 rfl (lv_at hl 3 rfl) ?_
  refine lv_iload_n hx hb dL_law_1192 rfl (lv_at hl 0 rfl) ?_
  refine lv_iconst (v := 1) hx hb dL_law_1193 (by decide) ?_
  refine lv_iadd hx hb dL_law_1194 ?_
  refine gp_ni 1 (by decide) ?_
  refine va_sld hx hb hX hbl hbA hS (by unfold vp_in; decide) dL_law_1195 ?_
  refine gp_ni (xs 1) rfl ?_
  refine lv_aload_n hx hb dL_law_1196 rfl (lv_at hl 3 rfl) ?_
  refine lv_iload_n hx hb dL_law_1197 rfl (lv_at hl 0 rfl) ?_
  refine lv_iconst (v := 2) hx hb dL_law_1198 (by decide) ?_
  refine lv_iadd hx hb dL_law_1199 ?_
  refine gp_ni 2 (by decide) ?_
  refine va_sld hx hb hX hbl hbA hS (by unfold vp_in; decide) dL_law_1200 ?_
  refine gp_ni (xs 2) rfl ?_
  refine lv_aload_n hx hb dL_law_1201 rfl (lv_at hl 3 rfl) ?_
  refine lv_iload_n hx hb dL_law_1202 rfl (lv_at hl 0 rfl) ?_
  refine lv_iconst (v := 3) hx hb dL_law_1203 (by decide) ?_
  refine lv_iadd hx hb dL_law_1204 ?_
  refine gp_ni 3 (by decide) ?_
  refine va_sld hx hb hX hbl hbA hS (by unfold vp_in; decide) dL_law_1205 ?_
  refine gp_ni (xs 3) rfl ?_
  refine lv_if_eq (tgt := 1213) hx hb dL_law_1206 (by decide) (fun c_1 => ?_) (fun c_1 => ?_)
  · refine lv_iconst (v := 0) hx hb dL_law_1213 (by decide) ?_
    have hPc := hP.sub (ws' := [((xa 0), .inr (11, [.ref (xa 1), .ref (xa 3), .ref (xa 7), .ref (xa 11), .ref (xa 20), .ref (xa 24), .ref (xa 25), .ref (xa 29)])), ((xa 29), .inr (1, [.int 0, .ref (xa 30), .ref (xa 31), .ref (xa 32), .ref (xa 33), .ref (xa 34), .ref (xa 35), .ref (xa 36), .ref (xa 37)])), ((xa 31), .inl (cy 1, 101, .inl (fun _ => 0))), ((xa 32), .inl (cy 1, 101, .inl (fun _ => 0))), ((xa 33), .inl (cy 3, 101, .inl (fun _ => 0))), ((xa 35), .inl (cy 1, 101, .inl (fun _ => 0)))]) [0, 29, 30, 31, 32, 34] rfl
    have hDc := hD.sub (ws' := [((xa 0), .inr (11, [.ref (xa 1), .ref (xa 3), .ref (xa 7), .ref (xa 11), .ref (xa 20), .ref (xa 24), .ref (xa 25), .ref (xa 29)])), ((xa 29), .inr (1, [.int 0, .ref (xa 30), .ref (xa 31), .ref (xa 32), .ref (xa 33), .ref (xa 34), .ref (xa 35), .ref (xa 36), .ref (xa 37)])), ((xa 31), .inl (cy 1, 101, .inl (fun _ => 0))), ((xa 32), .inl (cy 1, 101, .inl (fun _ => 0))), ((xa 33), .inl (cy 3, 101, .inl (fun _ => 0))), ((xa 35), .inl (cy 1, 101, .inl (fun _ => 0)))]) [0, 29, 30, 31, 32, 34] (by decide) rfl
    have hFc := va_free (wc := [((xa 0), .inr (11, [.ref (xa 1), .ref (xa 3), .ref (xa 7), .ref (xa 11), .ref (xa 20), .ref (xa 24), .ref (xa 25), .ref (xa 29)])), ((xa 29), .inr (1, [.int 0, .ref (xa 30), .ref (xa 31), .ref (xa 32), .ref (xa 33), .ref (xa 34), .ref (xa 35), .ref (xa 36), .ref (xa 37)])), ((xa 31), .inl (cy 1, 101, .inl (fun _ => 0))), ((xa 32), .inl (cy 1, 101, .inl (fun _ => 0))), ((xa 33), .inl (cy 3, 101, .inl (fun _ => 0))), ((xa 35), .inl (cy 1, 101, .inl (fun _ => 0)))]) hD hS hA [0, 29, 30, 31, 32, 34] rfl
    refine va_calli (va_runV (As := [.int (xs 1), .int (xs 2), .int 0]) (rest := []) ⟨hx, hb, hml, hown, hts⟩ (kX11_report l D cy H.size xa (xs 1) (xs 2) 0) (cwV 3 hts gc_kX11_report rfl rfl rfl (by decide +kernel) ⟨Nat.le_of_ble_eq_true rfl, Nat.le_of_ble_eq_true rfl⟩) (gp_preV (RX11, TX11, 8) 11 0 hPc hDc hK hN rfl rfl) rfl rfl hl.1 rfl (lv_room (Nat.le_of_ble_eq_true rfl)) dL_law_1214 ⟨Nat.le_of_ble_eq_true rfl, Nat.le_of_ble_eq_true rfl⟩) hS (fun q _ h => hFc q h) hFc (fun r_2 u t H locs ht hvm hw hB hz1 hk1 hS => ?_)
    obtain ⟨hP, hD⟩ := gp_join (wr := [((ma 200), mo_0 ma), ((ma 11), .inl (cy 3, 8, .inl (fun _ => 0))), ((ma 12), .inl (cy 1, 8, .inl (fun _ => 0))), ((ma 13), .inl (cy 1, 8, .inl (fun _ => 0))), ((ma 14), .inl (cy 3, 12, .inl (fun _ => 0))), ((ma 15), .inl (cy 1, 12, .inl (fun _ => 0))), ((ma 16), .inl (cy 1, 12, .inl (fun _ => 0))), ((ma 17), .inl (cy 1, 12, .inl (fun _ => 0))), ((ma 18), .inl (cy 1, 12, .inl (fun _ => 0))), ((ma 19), .inl (cy 3, 12, .inl (fun _ => 0))), ((ma 20), .inl (cy 3, 8, .inl (fun _ => 0))), ((ma 21), .inl (cy 1, 8, .inl (fun _ => 0))), ((ma 22), .inl (cy 1, 8, .inl (fun _ => 0))), ((ma 23), .inl (cy 1, 8, .inl (fun _ => 0))), ((ma 24), .inl (cy 1, 8, .inl (fun _ => 0))), ((ma 33), .inl (cy 1, 600, .inl (fun _ => 0))), ((ma 68), .inl (cy 1, 8, .inl (fun _ => 0))), ((ma 69), .inl (cy 1, 8, .inl (fun _ => 0))), ((ma 70), .inl (cy 1, 8, .inl (fun _ => 0))), ((ma 73), .inl (cy 1, 241, .inl (fun _ => 0))), ((ma 74), .inl (cy 1, 241, .inl (fun _ => 0))), ((ma 75), .inl (cy 1, 241, .inl (upd (fun _ => 0) 0 1))), ((ma 93), .inl (cy 1, 1000, .inl (fun _ => 0))), ((ma 94), .inl (cy 3, 1001, .inl (fun _ => 0))), ((ma 95), .inl (cy 1, 1000, .inl (fun _ => 0))), ((ma 97), .inl (cy 1, 101, .inl (fun _ => 0))), ((ma 98), .inl (cy 1, 101, .inl (fun _ => 0))), ((ma 99), .inl (cy 1, 101, .inl (fun _ => 0))), ((ma 100), .inl (cy 1, 101, .inl (fun _ => 0)))]) (w1 := []) hP hD [0, 29, 30, 31, 32, 34] [67, 68, 69, 70, 71, 72, 73, 74, 75, 76, 77, 78, 79, 80, 81, 82, 83, 84, 85, 86, 87, 88, 89, 90, 91, 92, 93, 94, 95] rfl rfl (by decide) (by decide) hk1 hFc ht hB
    have hP : va_P D vwCl [((ma 200), mo_0 ma), ((ma 11), .inl (cy 3, 8, .inl (fun _ => 0))), ((ma 12), .inl (cy 1, 8, .inl (fun _ => 0))), ((ma 13), .inl (cy 1, 8, .inl (fun _ => 0))), ((ma 14), .inl (cy 3, 12, .inl (fun _ => 0))), ((ma 15), .inl (cy 1, 12, .inl (fun _ => 0))), ((ma 16), .inl (cy 1, 12, .inl (fun _ => 0))), ((ma 17), .inl (cy 1, 12, .inl (fun _ => 0))), ((ma 18), .inl (cy 1, 12, .inl (fun _ => 0))), ((ma 19), .inl (cy 3, 12, .inl (fun _ => 0))), ((ma 20), .inl (cy 3, 8, .inl (fun _ => 0))), ((ma 21), .inl (cy 1, 8, .inl (fun _ => 0))), ((ma 22), .inl (cy 1, 8, .inl (fun _ => 0))), ((ma 23), .inl (cy 1, 8, .inl (fun _ => 0))), ((ma 24), .inl (cy 1, 8, .inl (fun _ => 0))), ((ma 33), .inl (cy 1, 600, .inl (fun _ => 0))), ((ma 68), .inl (cy 1, 8, .inl (fun _ => 0))), ((ma 69), .inl (cy 1, 8, .inl (fun _ => 0))), ((ma 70), .inl (cy 1, 8, .inl (fun _ => 0))), ((ma 73), .inl (cy 1, 241, .inl (fun _ => 0))), ((ma 74), .inl (cy 1, 241, .inl (fun _ => 0))), ((ma 75), .inl (cy 1, 241, .inl (upd (fun _ => 0) 0 1))), ((ma 93), .inl (cy 1, 1000, .inl (fun _ => 0))), ((ma 94), .inl (cy 3, 1001, .inl (fun _ => 0))), ((ma 95), .inl (cy 1, 1000, .inl (fun _ => 0))), ((ma 97), .inl (cy 1, 101, .inl (fun _ => 0))), ((ma 98), .inl (cy 1, 101, .inl (fun _ => 0))), ((ma 99), .inl (cy 1, 101, .inl (fun _ => 0))), ((ma 100), .inl (cy 1, 101, .inl (fun _ => 0)))] H := hP
    have hD : va_D A [((ma 200), mo_0 ma), ((ma 11), .inl (cy 3, 8, .inl (fun _ => 0))), ((ma 12), .inl (cy 1, 8, .inl (fun _ => 0))), ((ma 13), .inl (cy 1, 8, .inl (fun _ => 0))), ((ma 14), .inl (cy 3, 12, .inl (fun _ => 0))), ((ma 15), .inl (cy 1, 12, .inl (fun _ => 0))), ((ma 16), .inl (cy 1, 12, .inl (fun _ => 0))), ((ma 17), .inl (cy 1, 12, .inl (fun _ => 0))), ((ma 18), .inl (cy 1, 12, .inl (fun _ => 0))), ((ma 19), .inl (cy 3, 12, .inl (fun _ => 0))), ((ma 20), .inl (cy 3, 8, .inl (fun _ => 0))), ((ma 21), .inl (cy 1, 8, .inl (fun _ => 0))), ((ma 22), .inl (cy 1, 8, .inl (fun _ => 0))), ((ma 23), .inl (cy 1, 8, .inl (fun _ => 0))), ((ma 24), .inl (cy 1, 8, .inl (fun _ => 0))), ((ma 33), .inl (cy 1, 600, .inl (fun _ => 0))), ((ma 68), .inl (cy 1, 8, .inl (fun _ => 0))), ((ma 69), .inl (cy 1, 8, .inl (fun _ => 0))), ((ma 70), .inl (cy 1, 8, .inl (fun _ => 0))), ((ma 73), .inl (cy 1, 241, .inl (fun _ => 0))), ((ma 74), .inl (cy 1, 241, .inl (fun _ => 0))), ((ma 75), .inl (cy 1, 241, .inl (upd (fun _ => 0) 0 1))), ((ma 93), .inl (cy 1, 1000, .inl (fun _ => 0))), ((ma 94), .inl (cy 3, 1001, .inl (fun _ => 0))), ((ma 95), .inl (cy 1, 1000, .inl (fun _ => 0))), ((ma 97), .inl (cy 1, 101, .inl (fun _ => 0))), ((ma 98), .inl (cy 1, 101, .inl (fun _ => 0))), ((ma 99), .inl (cy 1, 101, .inl (fun _ => 0))), ((ma 100), .inl (cy 1, 101, .inl (fun _ => 0)))] := hD
    obtain rfl : r_2 = (if sp_in (xs 1) 0 7 ∧ sp_in (xs 2) 0 240 then 1 else (-1)) := hw
    refine lv_aload_n hx hb dL_law_1217 rfl (lv_at hl 1 rfl) ?_
    refine lv_aload_n hx hb dL_law_1218 rfl (lv_at hl 3 rfl) ?_
    refine lv_iload_n hx hb dL_law_1219 rfl (lv_at hl 0 rfl) ?_
    refine lv_iconst (v := 1) hx hb dL_law_1220 (by decide) ?_
    refine lv_iadd hx hb dL_law_1221 ?_
    refine gp_ni 1 (by decide) ?_
    refine va_sld hx hb hX hbl hbA hS (by unfold vp_in; decide) dL_law_1222 ?_
    refine gp_ni (xs 1) rfl ?_
    refine lv_aload_n hx hb dL_law_1223 rfl (lv_at hl 3 rfl) ?_
    refine lv_iload_n hx hb dL_law_1224 rfl (lv_at hl 0 rfl) ?_
    refine lv_iconst (v := 2) hx hb dL_law_1225 (by decide) ?_
    refine lv_iadd hx hb dL_law_1226 ?_
    refine gp_ni 2 (by decide) ?_
    refine va_sld hx hb hX hbl hbA hS (by unfold vp_in; decide) dL_law_1227 ?_
    refine gp_ni (xs 2) rfl ?_
    refine lv_aload_n hx hb dL_law_1228 rfl (lv_at hl 3 rfl) ?_
    refine lv_iload_n hx hb dL_law_1229 rfl (lv_at hl 0 rfl) ?_
    refine lv_iconst (v := 3) hx hb dL_law_1230 (by decide) ?_
    refine lv_iadd hx hb dL_law_1231 ?_
    refine gp_ni 3 (by decide) ?_
    refine va_sld hx hb hX hbl hbA hS (by unfold vp_in; decide) dL_law_1232 ?_
    refine gp_ni (xs 3) rfl ?_
    refine lv_if_eq (tgt := 1240) hx hb dL_law_1233 (by decide) (fun c_3 => ?_) (fun c_3 => absurd c_1 c_3)
    refine lv_iconst (v := 0) hx hb dL_law_1240 (by decide) ?_
    have hPc := hP.sub (ws' := [((ma 200), mo_0 ma), ((ma 97), .inl (cy 1, 101, .inl (fun _ => 0))), ((ma 98), .inl (cy 1, 101, .inl (fun _ => 0))), ((ma 99), .inl (cy 1, 101, .inl (fun _ => 0))), ((ma 100), .inl (cy 1, 101, .inl (fun _ => 0)))]) [0, 25, 26, 27, 28] rfl
    have hDc := hD.sub (ws' := [((ma 200), mo_0 ma), ((ma 97), .inl (cy 1, 101, .inl (fun _ => 0))), ((ma 98), .inl (cy 1, 101, .inl (fun _ => 0))), ((ma 99), .inl (cy 1, 101, .inl (fun _ => 0))), ((ma 100), .inl (cy 1, 101, .inl (fun _ => 0)))]) [0, 25, 26, 27, 28] (by decide) rfl
    have hFc := va_free (wc := [((ma 200), mo_0 ma), ((ma 97), .inl (cy 1, 101, .inl (fun _ => 0))), ((ma 98), .inl (cy 1, 101, .inl (fun _ => 0))), ((ma 99), .inl (cy 1, 101, .inl (fun _ => 0))), ((ma 100), .inl (cy 1, 101, .inl (fun _ => 0)))]) hD hS hA [0, 25, 26, 27, 28] rfl
    refine va_calli (va_runV (As := [.int (xs 1), .int (xs 2), .int 0]) (rest := [.int (if sp_in (xs 1) 0 7 ∧ sp_in (xs 2) 0 240 then 1 else (-1))]) ⟨hx, hb, hml, hown, hts⟩ (kX12_report l D cy H.size ma (xs 1) (xs 2) 0) (cwV 3 hts gc_kX12_report rfl rfl rfl (by decide +kernel) ⟨Nat.le_of_ble_eq_true rfl, Nat.le_of_ble_eq_true rfl⟩) (gp_preV (RX12, TX12, 104) 12 0 hPc hDc hK hN rfl rfl) rfl rfl hl.1 rfl (lv_room (Nat.le_of_ble_eq_true rfl)) dL_law_1241 ⟨Nat.le_of_ble_eq_true rfl, Nat.le_of_ble_eq_true rfl⟩) hS (fun q _ h => hFc q h) hFc (fun r_4 u t H locs ht hvm hw hB hz1 hk1 hS => ?_)
    obtain ⟨hP, hD⟩ := gp_join (wr := []) (w1 := []) hP hD [0, 25, 26, 27, 28] [] rfl rfl (by decide) (by decide) hk1 hFc ht hB
    have hP : va_P D vwCl [] H := hP
    have hD : va_D A [] := hD
    obtain rfl : r_4 = (if sp_in (xs 1) 0 7 ∧ sp_in (xs 2) 0 240 then 1 else (-1)) := hw
    refine lv_icmp_eq (tgt := 1364) hx hb dL_law_1244 (by decide) (fun c_5 => ?_) (fun c_5 => absurd rfl c_5)
    refine lv_iinc (v := 7) (lv' := [(3, .int 7), (2, .ref (ma 200)), (1, .ref (xa 0)), (0, .ref b)]) hx hb dL_law_1364 hl (k := 0) rfl (by decide) (by decide) rfl (fun ls hl => ?_)
    refine lv_goto (tgt := 18) hx hb dL_law_1367 (by decide) ?_
    refine lv_iload_n hx hb dL_law_18 rfl (lv_at hl 0 rfl) ?_
    refine lv_aload_n hx hb dL_law_19 rfl (lv_at hl 3 rfl) ?_
    refine va_slen hx hb hX hbl hbA hS dL_law_20 ?_
    refine gp_ni 7 rfl ?_
    refine lv_bipush (v := 7) hx hb dL_law_21 (by decide) ?_
    refine lv_isub hx hb dL_law_23 ?_
    refine gp_ni 0 (by decide) ?_
    refine lv_icmp_gt (tgt := 1370) hx hb dL_law_24 (by decide) (fun c_6 => ?_) (fun c_6 => absurd (by decide) c_6)
    refine lv_iconst (v := 1) hx hb dL_law_1370 (by decide) ?_
    refine va_forget (fun q hq => hSA _ (hS.2.2 q hq)) ?_
    refine W.widen (k := 600000) (n := 7302250) (by decide) (by decide) ?_
    exact lw_ret hx hb hr hlocks dL_law_1371
  · refine lv_iconst (v := 1) hx hb dL_law_1209 (by decide) ?_
    refine lv_goto (tgt := 1214) hx hb dL_law_1210 (by decide) ?_
    have hPc := hP.sub (ws' := [((xa 0), .inr (11, [.ref (xa 1), .ref (xa 3), .ref (xa 7), .ref (xa 11), .ref (xa 20), .ref (xa 24), .ref (xa 25), .ref (xa 29)])), ((xa 29), .inr (1, [.int 0, .ref (xa 30), .ref (xa 31), .ref (xa 32), .ref (xa 33), .ref (xa 34), .ref (xa 35), .ref (xa 36), .ref (xa 37)])), ((xa 31), .inl (cy 1, 101, .inl (fun _ => 0))), ((xa 32), .inl (cy 1, 101, .inl (fun _ => 0))), ((xa 33), .inl (cy 3, 101, .inl (fun _ => 0))), ((xa 35), .inl (cy 1, 101, .inl (fun _ => 0)))]) [0, 29, 30, 31, 32, 34] rfl
    have hDc := hD.sub (ws' := [((xa 0), .inr (11, [.ref (xa 1), .ref (xa 3), .ref (xa 7), .ref (xa 11), .ref (xa 20), .ref (xa 24), .ref (xa 25), .ref (xa 29)])), ((xa 29), .inr (1, [.int 0, .ref (xa 30), .ref (xa 31), .ref (xa 32), .ref (xa 33), .ref (xa 34), .ref (xa 35), .ref (xa 36), .ref (xa 37)])), ((xa 31), .inl (cy 1, 101, .inl (fun _ => 0))), ((xa 32), .inl (cy 1, 101, .inl (fun _ => 0))), ((xa 33), .inl (cy 3, 101, .inl (fun _ => 0))), ((xa 35), .inl (cy 1, 101, .inl (fun _ => 0)))]) [0, 29, 30, 31, 32, 34] (by decide) rfl
    have hFc := va_free (wc := [((xa 0), .inr (11, [.ref (xa 1), .ref (xa 3), .ref (xa 7), .ref (xa 11), .ref (xa 20), .ref (xa 24), .ref (xa 25), .ref (xa 29)])), ((xa 29), .inr (1, [.int 0, .ref (xa 30), .ref (xa 31), .ref (xa 32), .ref (xa 33), .ref (xa 34), .ref (xa 35), .ref (xa 36), .ref (xa 37)])), ((xa 31), .inl (cy 1, 101, .inl (fun _ => 0))), ((xa 32), .inl (cy 1, 101, .inl (fun _ => 0))), ((xa 33), .inl (cy 3, 101, .inl (fun _ => 0))), ((xa 35), .inl (cy 1, 101, .inl (fun _ => 0)))]) hD hS hA [0, 29, 30, 31, 32, 34] rfl
    refine va_calli (va_runV (As := [.int (xs 1), .int (xs 2), .int 1]) (rest := []) ⟨hx, hb, hml, hown, hts⟩ (kX11_report l D cy H.size xa (xs 1) (xs 2) 1) (cwV 3 hts gc_kX11_report rfl rfl rfl (by decide +kernel) ⟨Nat.le_of_ble_eq_true rfl, Nat.le_of_ble_eq_true rfl⟩) (gp_preV (RX11, TX11, 8) 11 0 hPc hDc hK hN rfl rfl) rfl rfl hl.1 rfl (lv_room (Nat.le_of_ble_eq_true rfl)) dL_law_1214 ⟨Nat.le_of_ble_eq_true rfl, Nat.le_of_ble_eq_true rfl⟩) hS (fun q _ h => hFc q h) hFc (fun r_7 u t H locs ht hvm hw hB hz1 hk1 hS => ?_)
    obtain ⟨hP, hD⟩ := gp_join (wr := [((ma 200), mo_0 ma), ((ma 11), .inl (cy 3, 8, .inl (fun _ => 0))), ((ma 12), .inl (cy 1, 8, .inl (fun _ => 0))), ((ma 13), .inl (cy 1, 8, .inl (fun _ => 0))), ((ma 14), .inl (cy 3, 12, .inl (fun _ => 0))), ((ma 15), .inl (cy 1, 12, .inl (fun _ => 0))), ((ma 16), .inl (cy 1, 12, .inl (fun _ => 0))), ((ma 17), .inl (cy 1, 12, .inl (fun _ => 0))), ((ma 18), .inl (cy 1, 12, .inl (fun _ => 0))), ((ma 19), .inl (cy 3, 12, .inl (fun _ => 0))), ((ma 20), .inl (cy 3, 8, .inl (fun _ => 0))), ((ma 21), .inl (cy 1, 8, .inl (fun _ => 0))), ((ma 22), .inl (cy 1, 8, .inl (fun _ => 0))), ((ma 23), .inl (cy 1, 8, .inl (fun _ => 0))), ((ma 24), .inl (cy 1, 8, .inl (fun _ => 0))), ((ma 33), .inl (cy 1, 600, .inl (fun _ => 0))), ((ma 68), .inl (cy 1, 8, .inl (fun _ => 0))), ((ma 69), .inl (cy 1, 8, .inl (fun _ => 0))), ((ma 70), .inl (cy 1, 8, .inl (fun _ => 0))), ((ma 73), .inl (cy 1, 241, .inl (fun _ => 0))), ((ma 74), .inl (cy 1, 241, .inl (fun _ => 0))), ((ma 75), .inl (cy 1, 241, .inl (upd (fun _ => 0) 0 1))), ((ma 93), .inl (cy 1, 1000, .inl (fun _ => 0))), ((ma 94), .inl (cy 3, 1001, .inl (fun _ => 0))), ((ma 95), .inl (cy 1, 1000, .inl (fun _ => 0))), ((ma 97), .inl (cy 1, 101, .inl (fun _ => 0))), ((ma 98), .inl (cy 1, 101, .inl (fun _ => 0))), ((ma 99), .inl (cy 1, 101, .inl (fun _ => 0))), ((ma 100), .inl (cy 1, 101, .inl (fun _ => 0)))]) (w1 := []) hP hD [0, 29, 30, 31, 32, 34] [67, 68, 69, 70, 71, 72, 73, 74, 75, 76, 77, 78, 79, 80, 81, 82, 83, 84, 85, 86, 87, 88, 89, 90, 91, 92, 93, 94, 95] rfl rfl (by decide) (by decide) hk1 hFc ht hB
    have hP : va_P D vwCl [((ma 200), mo_0 ma), ((ma 11), .inl (cy 3, 8, .inl (fun _ => 0))), ((ma 12), .inl (cy 1, 8, .inl (fun _ => 0))), ((ma 13), .inl (cy 1, 8, .inl (fun _ => 0))), ((ma 14), .inl (cy 3, 12, .inl (fun _ => 0))), ((ma 15), .inl (cy 1, 12, .inl (fun _ => 0))), ((ma 16), .inl (cy 1, 12, .inl (fun _ => 0))), ((ma 17), .inl (cy 1, 12, .inl (fun _ => 0))), ((ma 18), .inl (cy 1, 12, .inl (fun _ => 0))), ((ma 19), .inl (cy 3, 12, .inl (fun _ => 0))), ((ma 20), .inl (cy 3, 8, .inl (fun _ => 0))), ((ma 21), .inl (cy 1, 8, .inl (fun _ => 0))), ((ma 22), .inl (cy 1, 8, .inl (fun _ => 0))), ((ma 23), .inl (cy 1, 8, .inl (fun _ => 0))), ((ma 24), .inl (cy 1, 8, .inl (fun _ => 0))), ((ma 33), .inl (cy 1, 600, .inl (fun _ => 0))), ((ma 68), .inl (cy 1, 8, .inl (fun _ => 0))), ((ma 69), .inl (cy 1, 8, .inl (fun _ => 0))), ((ma 70), .inl (cy 1, 8, .inl (fun _ => 0))), ((ma 73), .inl (cy 1, 241, .inl (fun _ => 0))), ((ma 74), .inl (cy 1, 241, .inl (fun _ => 0))), ((ma 75), .inl (cy 1, 241, .inl (upd (fun _ => 0) 0 1))), ((ma 93), .inl (cy 1, 1000, .inl (fun _ => 0))), ((ma 94), .inl (cy 3, 1001, .inl (fun _ => 0))), ((ma 95), .inl (cy 1, 1000, .inl (fun _ => 0))), ((ma 97), .inl (cy 1, 101, .inl (fun _ => 0))), ((ma 98), .inl (cy 1, 101, .inl (fun _ => 0))), ((ma 99), .inl (cy 1, 101, .inl (fun _ => 0))), ((ma 100), .inl (cy 1, 101, .inl (fun _ => 0)))] H := hP
    have hD : va_D A [((ma 200), mo_0 ma), ((ma 11), .inl (cy 3, 8, .inl (fun _ => 0))), ((ma 12), .inl (cy 1, 8, .inl (fun _ => 0))), ((ma 13), .inl (cy 1, 8, .inl (fun _ => 0))), ((ma 14), .inl (cy 3, 12, .inl (fun _ => 0))), ((ma 15), .inl (cy 1, 12, .inl (fun _ => 0))), ((ma 16), .inl (cy 1, 12, .inl (fun _ => 0))), ((ma 17), .inl (cy 1, 12, .inl (fun _ => 0))), ((ma 18), .inl (cy 1, 12, .inl (fun _ => 0))), ((ma 19), .inl (cy 3, 12, .inl (fun _ => 0))), ((ma 20), .inl (cy 3, 8, .inl (fun _ => 0))), ((ma 21), .inl (cy 1, 8, .inl (fun _ => 0))), ((ma 22), .inl (cy 1, 8, .inl (fun _ => 0))), ((ma 23), .inl (cy 1, 8, .inl (fun _ => 0))), ((ma 24), .inl (cy 1, 8, .inl (fun _ => 0))), ((ma 33), .inl (cy 1, 600, .inl (fun _ => 0))), ((ma 68), .inl (cy 1, 8, .inl (fun _ => 0))), ((ma 69), .inl (cy 1, 8, .inl (fun _ => 0))), ((ma 70), .inl (cy 1, 8, .inl (fun _ => 0))), ((ma 73), .inl (cy 1, 241, .inl (fun _ => 0))), ((ma 74), .inl (cy 1, 241, .inl (fun _ => 0))), ((ma 75), .inl (cy 1, 241, .inl (upd (fun _ => 0) 0 1))), ((ma 93), .inl (cy 1, 1000, .inl (fun _ => 0))), ((ma 94), .inl (cy 3, 1001, .inl (fun _ => 0))), ((ma 95), .inl (cy 1, 1000, .inl (fun _ => 0))), ((ma 97), .inl (cy 1, 101, .inl (fun _ => 0))), ((ma 98), .inl (cy 1, 101, .inl (fun _ => 0))), ((ma 99), .inl (cy 1, 101, .inl (fun _ => 0))), ((ma 100), .inl (cy 1, 101, .inl (fun _ => 0)))] := hD
    obtain rfl : r_7 = (if sp_in (xs 1) 0 7 ∧ sp_in (xs 2) 0 240 then 1 else (-1)) := hw
    refine lv_aload_n hx hb dL_law_1217 rfl (lv_at hl 1 rfl) ?_
    refine lv_aload_n hx hb dL_law_1218 rfl (lv_at hl 3 rfl) ?_
    refine lv_iload_n hx hb dL_law_1219 rfl (lv_at hl 0 rfl) ?_
    refine lv_iconst (v := 1) hx hb dL_law_1220 (by decide) ?_
    refine lv_iadd hx hb dL_law_1221 ?_
    refine gp_ni 1 (by decide) ?_
    refine va_sld hx hb hX hbl hbA hS (by unfold vp_in; decide) dL_law_1222 ?_
    refine gp_ni (xs 1) rfl ?_
    refine lv_aload_n hx hb dL_law_1223 rfl (lv_at hl 3 rfl) ?_
    refine lv_iload_n hx hb dL_law_1224 rfl (lv_at hl 0 rfl) ?_
    refine lv_iconst (v := 2) hx hb dL_law_1225 (by decide) ?_
    refine lv_iadd hx hb dL_law_1226 ?_
    refine gp_ni 2 (by decide) ?_
    refine va_sld hx hb hX hbl hbA hS (by unfold vp_in; decide) dL_law_1227 ?_
    refine gp_ni (xs 2) rfl ?_
    refine lv_aload_n hx hb dL_law_1228 rfl (lv_at hl 3 rfl) ?_
    refine lv_iload_n hx hb dL_law_1229 rfl (lv_at hl 0 rfl) ?_
    refine lv_iconst (v := 3) hx hb dL_law_1230 (by decide) ?_
    refine lv_iadd hx hb dL_law_1231 ?_
    refine gp_ni 3 (by decide) ?_
    refine va_sld hx hb hX hbl hbA hS (by unfold vp_in; decide) dL_law_1232 ?_
    refine gp_ni (xs 3) rfl ?_
    refine lv_if_eq (tgt := 1240) hx hb dL_law_1233 (by decide) (fun c_8 => absurd c_8 c_1) (fun c_8 => ?_)
    refine lv_iconst (v := 1) hx hb dL_law_1236 (by decide) ?_
    refine lv_goto (tgt := 1241) hx hb dL_law_1237 (by decide) ?_
    have hPc := hP.sub (ws' := [((ma 200), mo_0 ma), ((ma 97), .inl (cy 1, 101, .inl (fun _ => 0))), ((ma 98), .inl (cy 1, 101, .inl (fun _ => 0))), ((ma 99), .inl (cy 1, 101, .inl (fun _ => 0))), ((ma 100), .inl (cy 1, 101, .inl (fun _ => 0)))]) [0, 25, 26, 27, 28] rfl
    have hDc := hD.sub (ws' := [((ma 200), mo_0 ma), ((ma 97), .inl (cy 1, 101, .inl (fun _ => 0))), ((ma 98), .inl (cy 1, 101, .inl (fun _ => 0))), ((ma 99), .inl (cy 1, 101, .inl (fun _ => 0))), ((ma 100), .inl (cy 1, 101, .inl (fun _ => 0)))]) [0, 25, 26, 27, 28] (by decide) rfl
    have hFc := va_free (wc := [((ma 200), mo_0 ma), ((ma 97), .inl (cy 1, 101, .inl (fun _ => 0))), ((ma 98), .inl (cy 1, 101, .inl (fun _ => 0))), ((ma 99), .inl (cy 1, 101, .inl (fun _ => 0))), ((ma 100), .inl (cy 1, 101, .inl (fun _ => 0)))]) hD hS hA [0, 25, 26, 27, 28] rfl
    refine va_calli (va_runV (As := [.int (xs 1), .int (xs 2), .int 1]) (rest := [.int (if sp_in (xs 1) 0 7 ∧ sp_in (xs 2) 0 240 then 1 else (-1))]) ⟨hx, hb, hml, hown, hts⟩ (kX12_report l D cy H.size ma (xs 1) (xs 2) 1) (cwV 3 hts gc_kX12_report rfl rfl rfl (by decide +kernel) ⟨Nat.le_of_ble_eq_true rfl, Nat.le_of_ble_eq_true rfl⟩) (gp_preV (RX12, TX12, 104) 12 0 hPc hDc hK hN rfl rfl) rfl rfl hl.1 rfl (lv_room (Nat.le_of_ble_eq_true rfl)) dL_law_1241 ⟨Nat.le_of_ble_eq_true rfl, Nat.le_of_ble_eq_true rfl⟩) hS (fun q _ h => hFc q h) hFc (fun r_9 u t H locs ht hvm hw hB hz1 hk1 hS => ?_)
    obtain ⟨hP, hD⟩ := gp_join (wr := []) (w1 := []) hP hD [0, 25, 26, 27, 28] [] rfl rfl (by decide) (by decide) hk1 hFc ht hB
    have hP : va_P D vwCl [] H := hP
    have hD : va_D A [] := hD
    obtain rfl : r_9 = (if sp_in (xs 1) 0 7 ∧ sp_in (xs 2) 0 240 then 1 else (-1)) := hw
    refine lv_icmp_eq (tgt := 1364) hx hb dL_law_1244 (by decide) (fun c_10 => ?_) (fun c_10 => absurd rfl c_10)
    refine lv_iinc (v := 7) (lv' := [(3, .int 7), (2, .ref (ma 200)), (1, .ref (xa 0)), (0, .ref b)]) hx hb dL_law_1364 hl (k := 0) rfl (by decide) (by decide) rfl (fun ls hl => ?_)
    refine lv_goto (tgt := 18) hx hb dL_law_1367 (by decide) ?_
    refine lv_iload_n hx hb dL_law_18 rfl (lv_at hl 0 rfl) ?_
    refine lv_aload_n hx hb dL_law_19 rfl (lv_at hl 3 rfl) ?_
    refine va_slen hx hb hX hbl hbA hS dL_law_20 ?_
    refine gp_ni 7 rfl ?_
    refine lv_bipush (v := 7) hx hb dL_law_21 (by decide) ?_
    refine lv_isub hx hb dL_law_23 ?_
    refine gp_ni 0 (by decide) ?_
    refine lv_icmp_gt (tgt := 1370) hx hb dL_law_24 (by decide) (fun c_11 => ?_) (fun c_11 => absurd (by decide) c_11)
    refine lv_iconst (v := 1) hx hb dL_law_1370 (by decide) ?_
    refine va_forget (fun q hq => hSA _ (hS.2.2 q hq)) ?_
    refine W.widen (k := 600000) (n := 7302250) (by decide) (by decide) ?_
    exact lw_ret hx hb hr hlocks dL_law_1371

set_option maxHeartbeats 4000000 in
set_option maxRecDepth 100000 in
theorem law_28 {p : Program} {e : Env} {s : State} {m : MethodId} {below : List Frame} {meth : Method} {c : Code} (l : Launch) {b : Nat} {xs : Nat → Int32} (C0 : lw_At p s m meth c b 7 xs) {D : va_G} {cy : Nat → ClassId} (hK : va_K D vwCl (gp_T cy) s) (hN : gp_N s) (xa ma : Nat → Nat) (fO : Nat → Option Nat) (hO : fO 0 = some (xa 6)) {A : Nat → Prop} (hAe : A = (fun q : Nat => s.heap.size ≤ q)) {H : Heap} {locs : List Loc} {ls : Array Slot} (hP : va_P D vwCl (lw_W cy xa ma fO) H) (hD : va_D A (lw_W cy xa ma fO)) (hS : va_S A s.heap H locs) (hl : lv_has ls 4 [(3, .int 0), (2, .ref (ma 200)), (1, .ref (xa 0)), (0, .ref b)]) : W p l e room_1 s m #[Value.ref b] below meth c H locs 153 14835 (lw_Z below #[Value.ref b] s) (F0 m 1249 ls []) := by
  obtain ⟨hx, hb, hr, hml, hown, hts, hX, hbl, hlocks, hgv⟩ := id C0
  have hown : s.vm.findClass RL = some m.cls := hown
  have hA : ∀ q : Nat, s.heap.size ≤ q → A q := fun q h => by rw [hAe]; exact h
  have hbA : ¬ A b := by rw [hAe]; exact Nat.not_le.mpr hbl
  have hSA : ∀ q : Nat, A q → s.heap.size ≤ q := fun q h => by rw [hAe] at h; exact h
  refine lv_aload_n hx hb dL_law_1249 rfl (lv_at hl 2 rfl) ?_
  refine lv_aload_n hx hb dL_law_1250 rfl (lv_at hl 3 rfl) ?_
  refine lv_iload_n hx hb dL_law_1251 rfl (lv_at hl 0 rfl) ?_
  refine lv_iconst (v := 1) hx hb dL_law_1252 (by decide) ?_
  refine lv_iadd hx hb dL_law_1253 ?_
  refine gp_ni 1 (by decide) ?_
  refine va_sld hx hb hX hbl hbA hS (by unfold vp_in; decide) dL_law_1254 ?_
  refine gp_ni (xs 1) rfl ?_
  have hPc := hP.sub (ws' := [((xa 0), .inr (11, [.ref (xa 1), .ref (xa 3), .ref (xa 7), .ref (xa 11), .ref (xa 20), .ref (xa 24), .ref (xa 25), .ref (xa 29)])), ((xa 29), .inr (1, [.int 0, .ref (xa 30), .ref (xa 31), .ref (xa 32), .ref (xa 33), .ref (xa 34), .ref (xa 35), .ref (xa 36), .ref (xa 37)]))]) [0, 29] rfl
  have hDc := hD.sub (ws' := [((xa 0), .inr (11, [.ref (xa 1), .ref (xa 3), .ref (xa 7), .ref (xa 11), .ref (xa 20), .ref (xa 24), .ref (xa 25), .ref (xa 29)])), ((xa 29), .inr (1, [.int 0, .ref (xa 30), .ref (xa 31), .ref (xa 32), .ref (xa 33), .ref (xa 34), .ref (xa 35), .ref (xa 36), .ref (xa 37)]))]) [0, 29] (by decide) rfl
  have hFc := va_free (wc := [((xa 0), .inr (11, [.ref (xa 1), .ref (xa 3), .ref (xa 7), .ref (xa 11), .ref (xa 20), .ref (xa 24), .ref (xa 25), .ref (xa 29)])), ((xa 29), .inr (1, [.int 0, .ref (xa 30), .ref (xa 31), .ref (xa 32), .ref (xa 33), .ref (xa 34), .ref (xa 35), .ref (xa 36), .ref (xa 37)]))]) hD hS hA [0, 29] rfl
  refine va_calli (va_runV (As := [.int (xs 1)]) (rest := []) ⟨hx, hb, hml, hown, hts⟩ (kX11_void l D cy H.size xa (xs 1)) (cwV 1 hts gc_kX11_void rfl rfl rfl (by decide +kernel) ⟨Nat.le_of_ble_eq_true rfl, Nat.le_of_ble_eq_true rfl⟩) (gp_preV (RX11, TX11, 8) 11 0 hPc hDc hK hN rfl rfl) rfl rfl hl.1 rfl (lv_room (Nat.le_of_ble_eq_true rfl)) dL_law_1255 ⟨Nat.le_of_ble_eq_true rfl, Nat.le_of_ble_eq_true rfl⟩) hS (fun q _ h => hFc q h) hFc (fun r_1 u t H locs ht hvm hw hB hz1 hk1 hS => ?_)
  obtain ⟨hP, hD⟩ := gp_join (wr := [((ma 200), mo_0 ma), ((ma 11), .inl (cy 3, 8, .inl (fun _ => 0))), ((ma 12), .inl (cy 1, 8, .inl (fun _ => 0))), ((ma 13), .inl (cy 1, 8, .inl (fun _ => 0))), ((ma 14), .inl (cy 3, 12, .inl (fun _ => 0))), ((ma 15), .inl (cy 1, 12, .inl (fun _ => 0))), ((ma 16), .inl (cy 1, 12, .inl (fun _ => 0))), ((ma 17), .inl (cy 1, 12, .inl (fun _ => 0))), ((ma 18), .inl (cy 1, 12, .inl (fun _ => 0))), ((ma 19), .inl (cy 3, 12, .inl (fun _ => 0))), ((ma 20), .inl (cy 3, 8, .inl (fun _ => 0))), ((ma 21), .inl (cy 1, 8, .inl (fun _ => 0))), ((ma 22), .inl (cy 1, 8, .inl (fun _ => 0))), ((ma 23), .inl (cy 1, 8, .inl (fun _ => 0))), ((ma 24), .inl (cy 1, 8, .inl (fun _ => 0))), ((ma 33), .inl (cy 1, 600, .inl (fun _ => 0))), ((ma 68), .inl (cy 1, 8, .inl (fun _ => 0))), ((ma 69), .inl (cy 1, 8, .inl (fun _ => 0))), ((ma 70), .inl (cy 1, 8, .inl (fun _ => 0))), ((ma 73), .inl (cy 1, 241, .inl (fun _ => 0))), ((ma 74), .inl (cy 1, 241, .inl (fun _ => 0))), ((ma 75), .inl (cy 1, 241, .inl (upd (fun _ => 0) 0 1))), ((ma 93), .inl (cy 1, 1000, .inl (fun _ => 0))), ((ma 94), .inl (cy 3, 1001, .inl (fun _ => 0))), ((ma 95), .inl (cy 1, 1000, .inl (fun _ => 0))), ((ma 97), .inl (cy 1, 101, .inl (fun _ => 0))), ((ma 98), .inl (cy 1, 101, .inl (fun _ => 0))), ((ma 99), .inl (cy 1, 101, .inl (fun _ => 0))), ((ma 100), .inl (cy 1, 101, .inl (fun _ => 0)))]) (w1 := []) hP hD [0, 29] [67, 68, 69, 70, 71, 72, 73, 74, 75, 76, 77, 78, 79, 80, 81, 82, 83, 84, 85, 86, 87, 88, 89, 90, 91, 92, 93, 94, 95] rfl rfl (by decide) (by decide) hk1 hFc ht hB
  have hP : va_P D vwCl [((ma 200), mo_0 ma), ((ma 11), .inl (cy 3, 8, .inl (fun _ => 0))), ((ma 12), .inl (cy 1, 8, .inl (fun _ => 0))), ((ma 13), .inl (cy 1, 8, .inl (fun _ => 0))), ((ma 14), .inl (cy 3, 12, .inl (fun _ => 0))), ((ma 15), .inl (cy 1, 12, .inl (fun _ => 0))), ((ma 16), .inl (cy 1, 12, .inl (fun _ => 0))), ((ma 17), .inl (cy 1, 12, .inl (fun _ => 0))), ((ma 18), .inl (cy 1, 12, .inl (fun _ => 0))), ((ma 19), .inl (cy 3, 12, .inl (fun _ => 0))), ((ma 20), .inl (cy 3, 8, .inl (fun _ => 0))), ((ma 21), .inl (cy 1, 8, .inl (fun _ => 0))), ((ma 22), .inl (cy 1, 8, .inl (fun _ => 0))), ((ma 23), .inl (cy 1, 8, .inl (fun _ => 0))), ((ma 24), .inl (cy 1, 8, .inl (fun _ => 0))), ((ma 33), .inl (cy 1, 600, .inl (fun _ => 0))), ((ma 68), .inl (cy 1, 8, .inl (fun _ => 0))), ((ma 69), .inl (cy 1, 8, .inl (fun _ => 0))), ((ma 70), .inl (cy 1, 8, .inl (fun _ => 0))), ((ma 73), .inl (cy 1, 241, .inl (fun _ => 0))), ((ma 74), .inl (cy 1, 241, .inl (fun _ => 0))), ((ma 75), .inl (cy 1, 241, .inl (upd (fun _ => 0) 0 1))), ((ma 93), .inl (cy 1, 1000, .inl (fun _ => 0))), ((ma 94), .inl (cy 3, 1001, .inl (fun _ => 0))), ((ma 95), .inl (cy 1, 1000, .inl (fun _ => 0))), ((ma 97), .inl (cy 1, 101, .inl (fun _ => 0))), ((ma 98), .inl (cy 1, 101, .inl (fun _ => 0))), ((ma 99), .inl (cy 1, 101, .inl (fun _ => 0))), ((ma 100), .inl (cy 1, 101, .inl (fun _ => 0)))] H := hP
  have hD : va_D A [((ma 200), mo_0 ma), ((ma 11), .inl (cy 3, 8, .inl (fun _ => 0))), ((ma 12), .inl (cy 1, 8, .inl (fun _ => 0))), ((ma 13), .inl (cy 1, 8, .inl (fun _ => 0))), ((ma 14), .inl (cy 3, 12, .inl (fun _ => 0))), ((ma 15), .inl (cy 1, 12, .inl (fun _ => 0))), ((ma 16), .inl (cy 1, 12, .inl (fun _ => 0))), ((ma 17), .inl (cy 1, 12, .inl (fun _ => 0))), ((ma 18), .inl (cy 1, 12, .inl (fun _ => 0))), ((ma 19), .inl (cy 3, 12, .inl (fun _ => 0))), ((ma 20), .inl (cy 3, 8, .inl (fun _ => 0))), ((ma 21), .inl (cy 1, 8, .inl (fun _ => 0))), ((ma 22), .inl (cy 1, 8, .inl (fun _ => 0))), ((ma 23), .inl (cy 1, 8, .inl (fun _ => 0))), ((ma 24), .inl (cy 1, 8, .inl (fun _ => 0))), ((ma 33), .inl (cy 1, 600, .inl (fun _ => 0))), ((ma 68), .inl (cy 1, 8, .inl (fun _ => 0))), ((ma 69), .inl (cy 1, 8, .inl (fun _ => 0))), ((ma 70), .inl (cy 1, 8, .inl (fun _ => 0))), ((ma 73), .inl (cy 1, 241, .inl (fun _ => 0))), ((ma 74), .inl (cy 1, 241, .inl (fun _ => 0))), ((ma 75), .inl (cy 1, 241, .inl (upd (fun _ => 0) 0 1))), ((ma 93), .inl (cy 1, 1000, .inl (fun _ => 0))), ((ma 94), .inl (cy 3, 1001, .inl (fun _ => 0))), ((ma 95), .inl (cy 1, 1000, .inl (fun _ => 0))), ((ma 97), .inl (cy 1, 101, .inl (fun _ => 0))), ((ma 98), .inl (cy 1, 101, .inl (fun _ => 0))), ((ma 99), .inl (cy 1, 101, .inl (fun _ => 0))), ((ma 100), .inl (cy 1, 101, .inl (fun _ => 0)))] := hD
  obtain rfl : r_1 = (-1) := hw
  refine lv_aload_n hx hb dL_law_1258 rfl (lv_at hl 1 rfl) ?_
  refine lv_aload_n hx hb dL_law_1259 rfl (lv_at hl 3 rfl) ?_
  refine lv_iload_n hx hb dL_law_1260 rfl (lv_at hl 0 rfl) ?_
  refine lv_iconst (v := 1) hx hb dL_law_1261 (by decide) ?_
  refine lv_iadd hx hb dL_law_1262 ?_
  refine gp_ni 1 (by decide) ?_
  refine va_sld hx hb hX hbl hbA hS (by unfold vp_in; decide) dL_law_1263 ?_
  refine gp_ni (xs 1) rfl ?_
  have hPc := hP.sub (ws' := [((ma 200), mo_0 ma)]) [0] rfl
  have hDc := hD.sub (ws' := [((ma 200), mo_0 ma)]) [0] (by decide) rfl
  have hFc := va_free (wc := [((ma 200), mo_0 ma)]) hD hS hA [0] rfl
  refine va_calli (va_runV (As := [.int (xs 1)]) (rest := [.int (-1)]) ⟨hx, hb, hml, hown, hts⟩ (kX12_void l D cy H.size ma (xs 1)) (cwV 1 hts gc_kX12_void rfl rfl rfl (by decide +kernel) ⟨Nat.le_of_ble_eq_true rfl, Nat.le_of_ble_eq_true rfl⟩) (gp_preV (RX12, TX12, 104) 12 0 hPc hDc hK hN rfl rfl) rfl rfl hl.1 rfl (lv_room (Nat.le_of_ble_eq_true rfl)) dL_law_1264 ⟨Nat.le_of_ble_eq_true rfl, Nat.le_of_ble_eq_true rfl⟩) hS (fun q _ h => hFc q h) hFc (fun r_2 u t H locs ht hvm hw hB hz1 hk1 hS => ?_)
  obtain ⟨hP, hD⟩ := gp_join (wr := []) (w1 := []) hP hD [0] [] rfl rfl (by decide) (by decide) hk1 hFc ht hB
  have hP : va_P D vwCl [] H := hP
  have hD : va_D A [] := hD
  obtain rfl : r_2 = (-1) := hw
  refine lv_icmp_eq (tgt := 1364) hx hb dL_law_1267 (by decide) (fun c_3 => ?_) (fun c_3 => absurd (by decide) c_3)
  refine lv_iinc (v := 7) (lv' := [(3, .int 7), (2, .ref (ma 200)), (1, .ref (xa 0)), (0, .ref b)]) hx hb dL_law_1364 hl (k := 0) rfl (by decide) (by decide) rfl (fun ls hl => ?_)
  refine lv_goto (tgt := 18) hx hb dL_law_1367 (by decide) ?_
  refine lv_iload_n hx hb dL_law_18 rfl (lv_at hl 0 rfl) ?_
  refine lv_aload_n hx hb dL_law_19 rfl (lv_at hl 3 rfl) ?_
  refine va_slen hx hb hX hbl hbA hS dL_law_20 ?_
  refine gp_ni 7 rfl ?_
  refine lv_bipush (v := 7) hx hb dL_law_21 (by decide) ?_
  refine lv_isub hx hb dL_law_23 ?_
  refine gp_ni 0 (by decide) ?_
  refine lv_icmp_gt (tgt := 1370) hx hb dL_law_24 (by decide) (fun c_4 => ?_) (fun c_4 => absurd (by decide) c_4)
  refine lv_iconst (v := 1) hx hb dL_law_1370 (by decide) ?_
  refine va_forget (fun q hq => hSA _ (hS.2.2 q hq)) ?_
  refine W.widen (k := 600000) (n := 7302250) (by decide) (by decide) ?_
  exact lw_ret hx hb hr hlocks dL_law_1371

set_option maxHeartbeats 4000000 in
set_option maxRecDepth 100000 in
theorem law_29 {p : Program} {e : Env} {s : State} {m : MethodId} {below : List Frame} {meth : Method} {c : Code} (l : Launch) {b : Nat} {xs : Nat → Int32} (C0 : lw_At p s m meth c b 7 xs) {D : va_G} {cy : Nat → ClassId} (hK : va_K D vwCl (gp_T cy) s) (hN : gp_N s) (xa ma : Nat → Nat) (fO : Nat → Option Nat) (hO : fO 0 = some (xa 6)) {A : Nat → Prop} (hAe : A = (fun q : Nat => s.heap.size ≤ q)) {H : Heap} {locs : List Loc} {ls : Array Slot} (hP : va_P D vwCl (lw_W cy xa ma fO) H) (hD : va_D A (lw_W cy xa ma fO)) (hS : va_S A s.heap H locs) (hl : lv_has ls 4 [(3, .int 0), (2, .ref (ma 200)), (1, .ref (xa 0)), (0, .ref b)]) : W p l e room_1 s m #[Value.ref b] below meth c H locs 153 14835 (lw_Z below #[Value.ref b] s) (F0 m 1272 ls []) := by
  obtain ⟨hx, hb, hr, hml, hown, hts, hX, hbl, hlocks, hgv⟩ := id C0
  have hown : s.vm.findClass RL = some m.cls := hown
  have hA : ∀ q : Nat, s.heap.size ≤ q → A q := fun q h => by rw [hAe]; exact h
  have hbA : ¬ A b := by rw [hAe]; exact Nat.not_le.mpr hbl
  have hSA : ∀ q : Nat, A q → s.heap.size ≤ q := fun q h => by rw [hAe] at h; exact h
  refine lv_aload_n hx hb dL_law_1272 rfl (lv_at hl 2 rfl) ?_
  refine lv_aload_n hx hb dL_law_1273 rfl (lv_at hl 3 rfl) ?_
  refine lv_iload_n hx hb dL_law_1274 rfl (lv_at hl 0 rfl) ?_
  refine lv_iconst (v := 1) hx hb dL_law_1275 (by decide) ?_
  refine lv_iadd hx hb dL_law_1276 ?_
  refine gp_ni 1 (by decide) ?_
  refine va_sld hx hb hX hbl hbA hS (by unfold vp_in; decide) dL_law_1277 ?_
  refine gp_ni (xs 1) rfl ?_
  refine lv_aload_n hx hb dL_law_1278 rfl (lv_at hl 3 rfl) ?_
  refine lv_iload_n hx hb dL_law_1279 rfl (lv_at hl 0 rfl) ?_
  refine lv_iconst (v := 2) hx hb dL_law_1280 (by decide) ?_
  refine lv_iadd hx hb dL_law_1281 ?_
  refine gp_ni 2 (by decide) ?_
  refine va_sld hx hb hX hbl hbA hS (by unfold vp_in; decide) dL_law_1282 ?_
  refine gp_ni (xs 2) rfl ?_
  have hPc := hP.sub (ws' := [((xa 0), .inr (11, [.ref (xa 1), .ref (xa 3), .ref (xa 7), .ref (xa 11), .ref (xa 20), .ref (xa 24), .ref (xa 25), .ref (xa 29)])), ((xa 24), .inr (4, [.int 0, .int 0, .int 0, .int 0, .int 0])), ((xa 29), .inr (1, [.int 0, .ref (xa 30), .ref (xa 31), .ref (xa 32), .ref (xa 33), .ref (xa 34), .ref (xa 35), .ref (xa 36), .ref (xa 37)]))]) [0, 24, 29] rfl
  have hDc := hD.sub (ws' := [((xa 0), .inr (11, [.ref (xa 1), .ref (xa 3), .ref (xa 7), .ref (xa 11), .ref (xa 20), .ref (xa 24), .ref (xa 25), .ref (xa 29)])), ((xa 24), .inr (4, [.int 0, .int 0, .int 0, .int 0, .int 0])), ((xa 29), .inr (1, [.int 0, .ref (xa 30), .ref (xa 31), .ref (xa 32), .ref (xa 33), .ref (xa 34), .ref (xa 35), .ref (xa 36), .ref (xa 37)]))]) [0, 24, 29] (by decide) rfl
  have hFc := va_free (wc := [((xa 0), .inr (11, [.ref (xa 1), .ref (xa 3), .ref (xa 7), .ref (xa 11), .ref (xa 20), .ref (xa 24), .ref (xa 25), .ref (xa 29)])), ((xa 24), .inr (4, [.int 0, .int 0, .int 0, .int 0, .int 0])), ((xa 29), .inr (1, [.int 0, .ref (xa 30), .ref (xa 31), .ref (xa 32), .ref (xa 33), .ref (xa 34), .ref (xa 35), .ref (xa 36), .ref (xa 37)]))]) hD hS hA [0, 24, 29] rfl
  refine va_calli (va_runV (As := [.int (xs 1), .int (xs 2)]) (rest := []) ⟨hx, hb, hml, hown, hts⟩ (kX11_quarrels l D cy H.size xa (xs 1) (xs 2)) (cwV 2 hts gc_kX11_quarrels rfl rfl rfl (by decide +kernel) ⟨Nat.le_of_ble_eq_true rfl, Nat.le_of_ble_eq_true rfl⟩) (gp_preV (RX11, TX11, 8) 11 0 hPc hDc hK hN rfl rfl) rfl rfl hl.1 rfl (lv_room (Nat.le_of_ble_eq_true rfl)) dL_law_1283 ⟨Nat.le_of_ble_eq_true rfl, Nat.le_of_ble_eq_true rfl⟩) hS (fun q _ h => hFc q h) hFc (fun r_1 u t H locs ht hvm hw hB hz1 hk1 hS => ?_)
  obtain ⟨hP, hD⟩ := gp_join (wr := [((ma 200), mo_0 ma), ((ma 11), .inl (cy 3, 8, .inl (fun _ => 0))), ((ma 12), .inl (cy 1, 8, .inl (fun _ => 0))), ((ma 13), .inl (cy 1, 8, .inl (fun _ => 0))), ((ma 14), .inl (cy 3, 12, .inl (fun _ => 0))), ((ma 15), .inl (cy 1, 12, .inl (fun _ => 0))), ((ma 16), .inl (cy 1, 12, .inl (fun _ => 0))), ((ma 17), .inl (cy 1, 12, .inl (fun _ => 0))), ((ma 18), .inl (cy 1, 12, .inl (fun _ => 0))), ((ma 19), .inl (cy 3, 12, .inl (fun _ => 0))), ((ma 20), .inl (cy 3, 8, .inl (fun _ => 0))), ((ma 21), .inl (cy 1, 8, .inl (fun _ => 0))), ((ma 22), .inl (cy 1, 8, .inl (fun _ => 0))), ((ma 23), .inl (cy 1, 8, .inl (fun _ => 0))), ((ma 24), .inl (cy 1, 8, .inl (fun _ => 0))), ((ma 33), .inl (cy 1, 600, .inl (fun _ => 0))), ((ma 68), .inl (cy 1, 8, .inl (fun _ => 0))), ((ma 69), .inl (cy 1, 8, .inl (fun _ => 0))), ((ma 70), .inl (cy 1, 8, .inl (fun _ => 0))), ((ma 73), .inl (cy 1, 241, .inl (fun _ => 0))), ((ma 74), .inl (cy 1, 241, .inl (fun _ => 0))), ((ma 75), .inl (cy 1, 241, .inl (upd (fun _ => 0) 0 1))), ((ma 93), .inl (cy 1, 1000, .inl (fun _ => 0))), ((ma 94), .inl (cy 3, 1001, .inl (fun _ => 0))), ((ma 95), .inl (cy 1, 1000, .inl (fun _ => 0))), ((ma 97), .inl (cy 1, 101, .inl (fun _ => 0))), ((ma 98), .inl (cy 1, 101, .inl (fun _ => 0))), ((ma 99), .inl (cy 1, 101, .inl (fun _ => 0))), ((ma 100), .inl (cy 1, 101, .inl (fun _ => 0)))]) (w1 := []) hP hD [0, 24, 29] [67, 68, 69, 70, 71, 72, 73, 74, 75, 76, 77, 78, 79, 80, 81, 82, 83, 84, 85, 86, 87, 88, 89, 90, 91, 92, 93, 94, 95] rfl rfl (by decide) (by decide) hk1 hFc ht hB
  have hP : va_P D vwCl [((ma 200), mo_0 ma), ((ma 11), .inl (cy 3, 8, .inl (fun _ => 0))), ((ma 12), .inl (cy 1, 8, .inl (fun _ => 0))), ((ma 13), .inl (cy 1, 8, .inl (fun _ => 0))), ((ma 14), .inl (cy 3, 12, .inl (fun _ => 0))), ((ma 15), .inl (cy 1, 12, .inl (fun _ => 0))), ((ma 16), .inl (cy 1, 12, .inl (fun _ => 0))), ((ma 17), .inl (cy 1, 12, .inl (fun _ => 0))), ((ma 18), .inl (cy 1, 12, .inl (fun _ => 0))), ((ma 19), .inl (cy 3, 12, .inl (fun _ => 0))), ((ma 20), .inl (cy 3, 8, .inl (fun _ => 0))), ((ma 21), .inl (cy 1, 8, .inl (fun _ => 0))), ((ma 22), .inl (cy 1, 8, .inl (fun _ => 0))), ((ma 23), .inl (cy 1, 8, .inl (fun _ => 0))), ((ma 24), .inl (cy 1, 8, .inl (fun _ => 0))), ((ma 33), .inl (cy 1, 600, .inl (fun _ => 0))), ((ma 68), .inl (cy 1, 8, .inl (fun _ => 0))), ((ma 69), .inl (cy 1, 8, .inl (fun _ => 0))), ((ma 70), .inl (cy 1, 8, .inl (fun _ => 0))), ((ma 73), .inl (cy 1, 241, .inl (fun _ => 0))), ((ma 74), .inl (cy 1, 241, .inl (fun _ => 0))), ((ma 75), .inl (cy 1, 241, .inl (upd (fun _ => 0) 0 1))), ((ma 93), .inl (cy 1, 1000, .inl (fun _ => 0))), ((ma 94), .inl (cy 3, 1001, .inl (fun _ => 0))), ((ma 95), .inl (cy 1, 1000, .inl (fun _ => 0))), ((ma 97), .inl (cy 1, 101, .inl (fun _ => 0))), ((ma 98), .inl (cy 1, 101, .inl (fun _ => 0))), ((ma 99), .inl (cy 1, 101, .inl (fun _ => 0))), ((ma 100), .inl (cy 1, 101, .inl (fun _ => 0)))] H := hP
  have hD : va_D A [((ma 200), mo_0 ma), ((ma 11), .inl (cy 3, 8, .inl (fun _ => 0))), ((ma 12), .inl (cy 1, 8, .inl (fun _ => 0))), ((ma 13), .inl (cy 1, 8, .inl (fun _ => 0))), ((ma 14), .inl (cy 3, 12, .inl (fun _ => 0))), ((ma 15), .inl (cy 1, 12, .inl (fun _ => 0))), ((ma 16), .inl (cy 1, 12, .inl (fun _ => 0))), ((ma 17), .inl (cy 1, 12, .inl (fun _ => 0))), ((ma 18), .inl (cy 1, 12, .inl (fun _ => 0))), ((ma 19), .inl (cy 3, 12, .inl (fun _ => 0))), ((ma 20), .inl (cy 3, 8, .inl (fun _ => 0))), ((ma 21), .inl (cy 1, 8, .inl (fun _ => 0))), ((ma 22), .inl (cy 1, 8, .inl (fun _ => 0))), ((ma 23), .inl (cy 1, 8, .inl (fun _ => 0))), ((ma 24), .inl (cy 1, 8, .inl (fun _ => 0))), ((ma 33), .inl (cy 1, 600, .inl (fun _ => 0))), ((ma 68), .inl (cy 1, 8, .inl (fun _ => 0))), ((ma 69), .inl (cy 1, 8, .inl (fun _ => 0))), ((ma 70), .inl (cy 1, 8, .inl (fun _ => 0))), ((ma 73), .inl (cy 1, 241, .inl (fun _ => 0))), ((ma 74), .inl (cy 1, 241, .inl (fun _ => 0))), ((ma 75), .inl (cy 1, 241, .inl (upd (fun _ => 0) 0 1))), ((ma 93), .inl (cy 1, 1000, .inl (fun _ => 0))), ((ma 94), .inl (cy 3, 1001, .inl (fun _ => 0))), ((ma 95), .inl (cy 1, 1000, .inl (fun _ => 0))), ((ma 97), .inl (cy 1, 101, .inl (fun _ => 0))), ((ma 98), .inl (cy 1, 101, .inl (fun _ => 0))), ((ma 99), .inl (cy 1, 101, .inl (fun _ => 0))), ((ma 100), .inl (cy 1, 101, .inl (fun _ => 0)))] := hD
  obtain rfl : r_1 = (-1) := hw
  refine lv_aload_n hx hb dL_law_1286 rfl (lv_at hl 1 rfl) ?_
  refine lv_aload_n hx hb dL_law_1287 rfl (lv_at hl 3 rfl) ?_
  refine lv_iload_n hx hb dL_law_1288 rfl (lv_at hl 0 rfl) ?_
  refine lv_iconst (v := 1) hx hb dL_law_1289 (by decide) ?_
  refine lv_iadd hx hb dL_law_1290 ?_
  refine gp_ni 1 (by decide) ?_
  refine va_sld hx hb hX hbl hbA hS (by unfold vp_in; decide) dL_law_1291 ?_
  refine gp_ni (xs 1) rfl ?_
  refine lv_aload_n hx hb dL_law_1292 rfl (lv_at hl 3 rfl) ?_
  refine lv_iload_n hx hb dL_law_1293 rfl (lv_at hl 0 rfl) ?_
  refine lv_iconst (v := 2) hx hb dL_law_1294 (by decide) ?_
  refine lv_iadd hx hb dL_law_1295 ?_
  refine gp_ni 2 (by decide) ?_
  refine va_sld hx hb hX hbl hbA hS (by unfold vp_in; decide) dL_law_1296 ?_
  refine gp_ni (xs 2) rfl ?_
  have hPc := hP.sub (ws' := [((ma 200), mo_0 ma)]) [0] rfl
  have hDc := hD.sub (ws' := [((ma 200), mo_0 ma)]) [0] (by decide) rfl
  have hFc := va_free (wc := [((ma 200), mo_0 ma)]) hD hS hA [0] rfl
  refine va_calli (va_runV (As := [.int (xs 1), .int (xs 2)]) (rest := [.int (-1)]) ⟨hx, hb, hml, hown, hts⟩ (kX12_quarrels l D cy H.size ma (xs 1) (xs 2)) (cwV 2 hts gc_kX12_quarrels rfl rfl rfl (by decide +kernel) ⟨Nat.le_of_ble_eq_true rfl, Nat.le_of_ble_eq_true rfl⟩) (gp_preV (RX12, TX12, 104) 12 0 hPc hDc hK hN rfl rfl) rfl rfl hl.1 rfl (lv_room (Nat.le_of_ble_eq_true rfl)) dL_law_1297 ⟨Nat.le_of_ble_eq_true rfl, Nat.le_of_ble_eq_true rfl⟩) hS (fun q _ h => hFc q h) hFc (fun r_2 u t H locs ht hvm hw hB hz1 hk1 hS => ?_)
  obtain ⟨hP, hD⟩ := gp_join (wr := []) (w1 := []) hP hD [0] [] rfl rfl (by decide) (by decide) hk1 hFc ht hB
  have hP : va_P D vwCl [] H := hP
  have hD : va_D A [] := hD
  obtain rfl : r_2 = (-1) := hw
  refine lv_icmp_eq (tgt := 1364) hx hb dL_law_1300 (by decide) (fun c_3 => ?_) (fun c_3 => absurd (by decide) c_3)
  refine lv_iinc (v := 7) (lv' := [(3, .int 7), (2, .ref (ma 200)), (1, .ref (xa 0)), (0, .ref b)]) hx hb dL_law_1364 hl (k := 0) rfl (by decide) (by decide) rfl (fun ls hl => ?_)
  refine lv_goto (tgt := 18) hx hb dL_law_1367 (by decide) ?_
  refine lv_iload_n hx hb dL_law_18 rfl (lv_at hl 0 rfl) ?_
  refine lv_aload_n hx hb dL_law_19 rfl (lv_at hl 3 rfl) ?_
  refine va_slen hx hb hX hbl hbA hS dL_law_20 ?_
  refine gp_ni 7 rfl ?_
  refine lv_bipush (v := 7) hx hb dL_law_21 (by decide) ?_
  refine lv_isub hx hb dL_law_23 ?_
  refine gp_ni 0 (by decide) ?_
  refine lv_icmp_gt (tgt := 1370) hx hb dL_law_24 (by decide) (fun c_4 => ?_) (fun c_4 => absurd (by decide) c_4)
  refine lv_iconst (v := 1) hx hb dL_law_1370 (by decide) ?_
  refine va_forget (fun q hq => hSA _ (hS.2.2 q hq)) ?_
  refine W.widen (k := 600000) (n := 7302250) (by decide) (by decide) ?_
  exact lw_ret hx hb hr hlocks dL_law_1371

set_option maxHeartbeats 4000000 in
set_option maxRecDepth 100000 in
theorem law_30 {p : Program} {e : Env} {s : State} {m : MethodId} {below : List Frame} {meth : Method} {c : Code} (l : Launch) {b : Nat} {xs : Nat → Int32} (C0 : lw_At p s m meth c b 7 xs) {D : va_G} {cy : Nat → ClassId} (hK : va_K D vwCl (gp_T cy) s) (hN : gp_N s) (xa ma : Nat → Nat) (fO : Nat → Option Nat) (hO : fO 0 = some (xa 6)) {A : Nat → Prop} (hAe : A = (fun q : Nat => s.heap.size ≤ q)) {H : Heap} {locs : List Loc} {ls : Array Slot} (hP : va_P D vwCl (lw_W cy xa ma fO) H) (hD : va_D A (lw_W cy xa ma fO)) (hS : va_S A s.heap H locs) (hl : lv_has ls 4 [(3, .int 0), (2, .ref (ma 200)), (1, .ref (xa 0)), (0, .ref b)]) : W p l e room_1 s m #[Value.ref b] below meth c H locs 153 14835 (lw_Z below #[Value.ref b] s) (F0 m 1305 ls []) := by
  obtain ⟨hx, hb, hr, hml, hown, hts, hX, hbl, hlocks, hgv⟩ := id C0
  have hown : s.vm.findClass RL = some m.cls := hown
  have hA : ∀ q : Nat, s.heap.size ≤ q → A q := fun q h => by rw [hAe]; exact h
  have hbA : ¬ A b := by rw [hAe]; exact Nat.not_le.mpr hbl
  have hSA : ∀ q : Nat, A q → s.heap.size ≤ q := fun q h => by rw [hAe] at h; exact h
  refine lv_aload_n hx hb dL_law_1305 rfl (lv_at hl 2 rfl) ?_
  refine lv_aload_n hx hb dL_law_1306 rfl (lv_at hl 3 rfl) ?_
  refine lv_iload_n hx hb dL_law_1307 rfl (lv_at hl 0 rfl) ?_
  refine lv_iconst (v := 1) hx hb dL_law_1308 (by decide) ?_
  refine lv_iadd hx hb dL_law_1309 ?_
  refine gp_ni 1 (by decide) ?_
  refine va_sld hx hb hX hbl hbA hS (by unfold vp_in; decide) dL_law_1310 ?_
  refine gp_ni (xs 1) rfl ?_
  have hPc := hP.sub (ws' := [((xa 0), .inr (11, [.ref (xa 1), .ref (xa 3), .ref (xa 7), .ref (xa 11), .ref (xa 20), .ref (xa 24), .ref (xa 25), .ref (xa 29)])), ((xa 24), .inr (4, [.int 0, .int 0, .int 0, .int 0, .int 0])), ((xa 29), .inr (1, [.int 0, .ref (xa 30), .ref (xa 31), .ref (xa 32), .ref (xa 33), .ref (xa 34), .ref (xa 35), .ref (xa 36), .ref (xa 37)]))]) [0, 24, 29] rfl
  have hDc := hD.sub (ws' := [((xa 0), .inr (11, [.ref (xa 1), .ref (xa 3), .ref (xa 7), .ref (xa 11), .ref (xa 20), .ref (xa 24), .ref (xa 25), .ref (xa 29)])), ((xa 24), .inr (4, [.int 0, .int 0, .int 0, .int 0, .int 0])), ((xa 29), .inr (1, [.int 0, .ref (xa 30), .ref (xa 31), .ref (xa 32), .ref (xa 33), .ref (xa 34), .ref (xa 35), .ref (xa 36), .ref (xa 37)]))]) [0, 24, 29] (by decide) rfl
  have hFc := va_free (wc := [((xa 0), .inr (11, [.ref (xa 1), .ref (xa 3), .ref (xa 7), .ref (xa 11), .ref (xa 20), .ref (xa 24), .ref (xa 25), .ref (xa 29)])), ((xa 24), .inr (4, [.int 0, .int 0, .int 0, .int 0, .int 0])), ((xa 29), .inr (1, [.int 0, .ref (xa 30), .ref (xa 31), .ref (xa 32), .ref (xa 33), .ref (xa 34), .ref (xa 35), .ref (xa 36), .ref (xa 37)]))]) hD hS hA [0, 24, 29] rfl
  refine va_calli (va_runV (As := [.int (xs 1)]) (rest := []) ⟨hx, hb, hml, hown, hts⟩ (kX11_likely l D cy H.size xa (xs 1)) (cwV 1 hts gc_kX11_likely rfl rfl rfl (by decide +kernel) ⟨Nat.le_of_ble_eq_true rfl, Nat.le_of_ble_eq_true rfl⟩) (gp_preV (RX11, TX11, 8) 11 0 hPc hDc hK hN rfl rfl) rfl rfl hl.1 rfl (lv_room (Nat.le_of_ble_eq_true rfl)) dL_law_1311 ⟨Nat.le_of_ble_eq_true rfl, Nat.le_of_ble_eq_true rfl⟩) hS (fun q _ h => hFc q h) hFc (fun r_1 u t H locs ht hvm hw hB hz1 hk1 hS => ?_)
  obtain ⟨hP, hD⟩ := gp_join (wr := [((ma 200), mo_0 ma), ((ma 11), .inl (cy 3, 8, .inl (fun _ => 0))), ((ma 12), .inl (cy 1, 8, .inl (fun _ => 0))), ((ma 13), .inl (cy 1, 8, .inl (fun _ => 0))), ((ma 14), .inl (cy 3, 12, .inl (fun _ => 0))), ((ma 15), .inl (cy 1, 12, .inl (fun _ => 0))), ((ma 16), .inl (cy 1, 12, .inl (fun _ => 0))), ((ma 17), .inl (cy 1, 12, .inl (fun _ => 0))), ((ma 18), .inl (cy 1, 12, .inl (fun _ => 0))), ((ma 19), .inl (cy 3, 12, .inl (fun _ => 0))), ((ma 20), .inl (cy 3, 8, .inl (fun _ => 0))), ((ma 21), .inl (cy 1, 8, .inl (fun _ => 0))), ((ma 22), .inl (cy 1, 8, .inl (fun _ => 0))), ((ma 23), .inl (cy 1, 8, .inl (fun _ => 0))), ((ma 24), .inl (cy 1, 8, .inl (fun _ => 0))), ((ma 33), .inl (cy 1, 600, .inl (fun _ => 0))), ((ma 68), .inl (cy 1, 8, .inl (fun _ => 0))), ((ma 69), .inl (cy 1, 8, .inl (fun _ => 0))), ((ma 70), .inl (cy 1, 8, .inl (fun _ => 0))), ((ma 73), .inl (cy 1, 241, .inl (fun _ => 0))), ((ma 74), .inl (cy 1, 241, .inl (fun _ => 0))), ((ma 75), .inl (cy 1, 241, .inl (upd (fun _ => 0) 0 1))), ((ma 93), .inl (cy 1, 1000, .inl (fun _ => 0))), ((ma 94), .inl (cy 3, 1001, .inl (fun _ => 0))), ((ma 95), .inl (cy 1, 1000, .inl (fun _ => 0))), ((ma 97), .inl (cy 1, 101, .inl (fun _ => 0))), ((ma 98), .inl (cy 1, 101, .inl (fun _ => 0))), ((ma 99), .inl (cy 1, 101, .inl (fun _ => 0))), ((ma 100), .inl (cy 1, 101, .inl (fun _ => 0)))]) (w1 := []) hP hD [0, 24, 29] [67, 68, 69, 70, 71, 72, 73, 74, 75, 76, 77, 78, 79, 80, 81, 82, 83, 84, 85, 86, 87, 88, 89, 90, 91, 92, 93, 94, 95] rfl rfl (by decide) (by decide) hk1 hFc ht hB
  have hP : va_P D vwCl [((ma 200), mo_0 ma), ((ma 11), .inl (cy 3, 8, .inl (fun _ => 0))), ((ma 12), .inl (cy 1, 8, .inl (fun _ => 0))), ((ma 13), .inl (cy 1, 8, .inl (fun _ => 0))), ((ma 14), .inl (cy 3, 12, .inl (fun _ => 0))), ((ma 15), .inl (cy 1, 12, .inl (fun _ => 0))), ((ma 16), .inl (cy 1, 12, .inl (fun _ => 0))), ((ma 17), .inl (cy 1, 12, .inl (fun _ => 0))), ((ma 18), .inl (cy 1, 12, .inl (fun _ => 0))), ((ma 19), .inl (cy 3, 12, .inl (fun _ => 0))), ((ma 20), .inl (cy 3, 8, .inl (fun _ => 0))), ((ma 21), .inl (cy 1, 8, .inl (fun _ => 0))), ((ma 22), .inl (cy 1, 8, .inl (fun _ => 0))), ((ma 23), .inl (cy 1, 8, .inl (fun _ => 0))), ((ma 24), .inl (cy 1, 8, .inl (fun _ => 0))), ((ma 33), .inl (cy 1, 600, .inl (fun _ => 0))), ((ma 68), .inl (cy 1, 8, .inl (fun _ => 0))), ((ma 69), .inl (cy 1, 8, .inl (fun _ => 0))), ((ma 70), .inl (cy 1, 8, .inl (fun _ => 0))), ((ma 73), .inl (cy 1, 241, .inl (fun _ => 0))), ((ma 74), .inl (cy 1, 241, .inl (fun _ => 0))), ((ma 75), .inl (cy 1, 241, .inl (upd (fun _ => 0) 0 1))), ((ma 93), .inl (cy 1, 1000, .inl (fun _ => 0))), ((ma 94), .inl (cy 3, 1001, .inl (fun _ => 0))), ((ma 95), .inl (cy 1, 1000, .inl (fun _ => 0))), ((ma 97), .inl (cy 1, 101, .inl (fun _ => 0))), ((ma 98), .inl (cy 1, 101, .inl (fun _ => 0))), ((ma 99), .inl (cy 1, 101, .inl (fun _ => 0))), ((ma 100), .inl (cy 1, 101, .inl (fun _ => 0)))] H := hP
  have hD : va_D A [((ma 200), mo_0 ma), ((ma 11), .inl (cy 3, 8, .inl (fun _ => 0))), ((ma 12), .inl (cy 1, 8, .inl (fun _ => 0))), ((ma 13), .inl (cy 1, 8, .inl (fun _ => 0))), ((ma 14), .inl (cy 3, 12, .inl (fun _ => 0))), ((ma 15), .inl (cy 1, 12, .inl (fun _ => 0))), ((ma 16), .inl (cy 1, 12, .inl (fun _ => 0))), ((ma 17), .inl (cy 1, 12, .inl (fun _ => 0))), ((ma 18), .inl (cy 1, 12, .inl (fun _ => 0))), ((ma 19), .inl (cy 3, 12, .inl (fun _ => 0))), ((ma 20), .inl (cy 3, 8, .inl (fun _ => 0))), ((ma 21), .inl (cy 1, 8, .inl (fun _ => 0))), ((ma 22), .inl (cy 1, 8, .inl (fun _ => 0))), ((ma 23), .inl (cy 1, 8, .inl (fun _ => 0))), ((ma 24), .inl (cy 1, 8, .inl (fun _ => 0))), ((ma 33), .inl (cy 1, 600, .inl (fun _ => 0))), ((ma 68), .inl (cy 1, 8, .inl (fun _ => 0))), ((ma 69), .inl (cy 1, 8, .inl (fun _ => 0))), ((ma 70), .inl (cy 1, 8, .inl (fun _ => 0))), ((ma 73), .inl (cy 1, 241, .inl (fun _ => 0))), ((ma 74), .inl (cy 1, 241, .inl (fun _ => 0))), ((ma 75), .inl (cy 1, 241, .inl (upd (fun _ => 0) 0 1))), ((ma 93), .inl (cy 1, 1000, .inl (fun _ => 0))), ((ma 94), .inl (cy 3, 1001, .inl (fun _ => 0))), ((ma 95), .inl (cy 1, 1000, .inl (fun _ => 0))), ((ma 97), .inl (cy 1, 101, .inl (fun _ => 0))), ((ma 98), .inl (cy 1, 101, .inl (fun _ => 0))), ((ma 99), .inl (cy 1, 101, .inl (fun _ => 0))), ((ma 100), .inl (cy 1, 101, .inl (fun _ => 0)))] := hD
  obtain rfl : r_1 = (-1) := hw
  refine lv_aload_n hx hb dL_law_1314 rfl (lv_at hl 1 rfl) ?_
  refine lv_aload_n hx hb dL_law_1315 rfl (lv_at hl 3 rfl) ?_
  refine lv_iload_n hx hb dL_law_1316 rfl (lv_at hl 0 rfl) ?_
  refine lv_iconst (v := 1) hx hb dL_law_1317 (by decide) ?_
  refine lv_iadd hx hb dL_law_1318 ?_
  refine gp_ni 1 (by decide) ?_
  refine va_sld hx hb hX hbl hbA hS (by unfold vp_in; decide) dL_law_1319 ?_
  refine gp_ni (xs 1) rfl ?_
  have hPc := hP.sub (ws' := [((ma 200), mo_0 ma)]) [0] rfl
  have hDc := hD.sub (ws' := [((ma 200), mo_0 ma)]) [0] (by decide) rfl
  have hFc := va_free (wc := [((ma 200), mo_0 ma)]) hD hS hA [0] rfl
  refine va_calli (va_runV (As := [.int (xs 1)]) (rest := [.int (-1)]) ⟨hx, hb, hml, hown, hts⟩ (kX12_likely l D cy H.size ma (xs 1)) (cwV 1 hts gc_kX12_likely rfl rfl rfl (by decide +kernel) ⟨Nat.le_of_ble_eq_true rfl, Nat.le_of_ble_eq_true rfl⟩) (gp_preV (RX12, TX12, 104) 12 0 hPc hDc hK hN rfl rfl) rfl rfl hl.1 rfl (lv_room (Nat.le_of_ble_eq_true rfl)) dL_law_1320 ⟨Nat.le_of_ble_eq_true rfl, Nat.le_of_ble_eq_true rfl⟩) hS (fun q _ h => hFc q h) hFc (fun r_2 u t H locs ht hvm hw hB hz1 hk1 hS => ?_)
  obtain ⟨hP, hD⟩ := gp_join (wr := []) (w1 := []) hP hD [0] [] rfl rfl (by decide) (by decide) hk1 hFc ht hB
  have hP : va_P D vwCl [] H := hP
  have hD : va_D A [] := hD
  obtain rfl : r_2 = (-1) := hw
  refine lv_icmp_eq (tgt := 1364) hx hb dL_law_1323 (by decide) (fun c_3 => ?_) (fun c_3 => absurd (by decide) c_3)
  refine lv_iinc (v := 7) (lv' := [(3, .int 7), (2, .ref (ma 200)), (1, .ref (xa 0)), (0, .ref b)]) hx hb dL_law_1364 hl (k := 0) rfl (by decide) (by decide) rfl (fun ls hl => ?_)
  refine lv_goto (tgt := 18) hx hb dL_law_1367 (by decide) ?_
  refine lv_iload_n hx hb dL_law_18 rfl (lv_at hl 0 rfl) ?_
  refine lv_aload_n hx hb dL_law_19 rfl (lv_at hl 3 rfl) ?_
  refine va_slen hx hb hX hbl hbA hS dL_law_20 ?_
  refine gp_ni 7 rfl ?_
  refine lv_bipush (v := 7) hx hb dL_law_21 (by decide) ?_
  refine lv_isub hx hb dL_law_23 ?_
  refine gp_ni 0 (by decide) ?_
  refine lv_icmp_gt (tgt := 1370) hx hb dL_law_24 (by decide) (fun c_4 => ?_) (fun c_4 => absurd (by decide) c_4)
  refine lv_iconst (v := 1) hx hb dL_law_1370 (by decide) ?_
  refine va_forget (fun q hq => hSA _ (hS.2.2 q hq)) ?_
  refine W.widen (k := 600000) (n := 7302250) (by decide) (by decide) ?_
  exact lw_ret hx hb hr hlocks dL_law_1371

set_option maxHeartbeats 4000000 in
set_option maxRecDepth 100000 in
theorem law_31 {p : Program} {e : Env} {s : State} {m : MethodId} {below : List Frame} {meth : Method} {c : Code} (l : Launch) {b : Nat} {xs : Nat → Int32} (C0 : lw_At p s m meth c b 7 xs) {D : va_G} {cy : Nat → ClassId} (hK : va_K D vwCl (gp_T cy) s) (hN : gp_N s) (xa ma : Nat → Nat) (fO : Nat → Option Nat) (hO : fO 0 = some (xa 6)) {A : Nat → Prop} (hAe : A = (fun q : Nat => s.heap.size ≤ q)) {H : Heap} {locs : List Loc} {ls : Array Slot} (hP : va_P D vwCl (lw_W cy xa ma fO) H) (hD : va_D A (lw_W cy xa ma fO)) (hS : va_S A s.heap H locs) (hl : lv_has ls 4 [(3, .int 0), (2, .ref (ma 200)), (1, .ref (xa 0)), (0, .ref b)]) : W p l e room_1 s m #[Value.ref b] below meth c H locs 153 14835 (lw_Z below #[Value.ref b] s) (F0 m 1328 ls []) := by
  obtain ⟨hx, hb, hr, hml, hown, hts, hX, hbl, hlocks, hgv⟩ := id C0
  have hown : s.vm.findClass RL = some m.cls := hown
  have hA : ∀ q : Nat, s.heap.size ≤ q → A q := fun q h => by rw [hAe]; exact h
  have hbA : ¬ A b := by rw [hAe]; exact Nat.not_le.mpr hbl
  have hSA : ∀ q : Nat, A q → s.heap.size ≤ q := fun q h => by rw [hAe] at h; exact h
  refine lv_aload_n hx hb dL_law_1328 rfl (lv_at hl 2 rfl) ?_
  have hPc := hP.sub (ws' := [((xa 0), .inr (11, [.ref (xa 1), .ref (xa 3), .ref (xa 7), .ref (xa 11), .ref (xa 20), .ref (xa 24), .ref (xa 25), .ref (xa 29)])), ((xa 24), .inr (4, [.int 0, .int 0, .int 0, .int 0, .int 0]))]) [0, 24] rfl
  have hDc := hD.sub (ws' := [((xa 0), .inr (11, [.ref (xa 1), .ref (xa 3), .ref (xa 7), .ref (xa 11), .ref (xa 20), .ref (xa 24), .ref (xa 25), .ref (xa 29)])), ((xa 24), .inr (4, [.int 0, .int 0, .int 0, .int 0, .int 0]))]) [0, 24] (by decide) rfl
  have hFc := va_free (wc := [((xa 0), .inr (11, [.ref (xa 1), .ref (xa 3), .ref (xa 7), .ref (xa 11), .ref (xa 20), .ref (xa 24), .ref (xa 25), .ref (xa 29)])), ((xa 24), .inr (4, [.int 0, .int 0, .int 0, .int 0, .int 0]))]) hD hS hA [0, 24] rfl
  refine va_calli (va_runV (As := []) (rest := []) ⟨hx, hb, hml, hown, hts⟩ (kX11_since l D cy H.size xa) (cwV 0 hts gc_kX11_since rfl rfl rfl (by decide +kernel) ⟨Nat.le_of_ble_eq_true rfl, Nat.le_of_ble_eq_true rfl⟩) (gp_preV (RX11, TX11, 8) 11 0 hPc hDc hK hN rfl rfl) rfl rfl hl.1 rfl (lv_room (Nat.le_of_ble_eq_true rfl)) dL_law_1329 ⟨Nat.le_of_ble_eq_true rfl, Nat.le_of_ble_eq_true rfl⟩) hS (fun q _ h => hFc q h) hFc (fun r_1 u t H locs ht hvm hw hB hz1 hk1 hS => ?_)
  obtain ⟨hP, hD⟩ := gp_join (wr := [((ma 200), mo_0 ma), ((ma 11), .inl (cy 3, 8, .inl (fun _ => 0))), ((ma 12), .inl (cy 1, 8, .inl (fun _ => 0))), ((ma 13), .inl (cy 1, 8, .inl (fun _ => 0))), ((ma 14), .inl (cy 3, 12, .inl (fun _ => 0))), ((ma 15), .inl (cy 1, 12, .inl (fun _ => 0))), ((ma 16), .inl (cy 1, 12, .inl (fun _ => 0))), ((ma 17), .inl (cy 1, 12, .inl (fun _ => 0))), ((ma 18), .inl (cy 1, 12, .inl (fun _ => 0))), ((ma 19), .inl (cy 3, 12, .inl (fun _ => 0))), ((ma 20), .inl (cy 3, 8, .inl (fun _ => 0))), ((ma 21), .inl (cy 1, 8, .inl (fun _ => 0))), ((ma 22), .inl (cy 1, 8, .inl (fun _ => 0))), ((ma 23), .inl (cy 1, 8, .inl (fun _ => 0))), ((ma 24), .inl (cy 1, 8, .inl (fun _ => 0))), ((ma 33), .inl (cy 1, 600, .inl (fun _ => 0))), ((ma 68), .inl (cy 1, 8, .inl (fun _ => 0))), ((ma 69), .inl (cy 1, 8, .inl (fun _ => 0))), ((ma 70), .inl (cy 1, 8, .inl (fun _ => 0))), ((ma 73), .inl (cy 1, 241, .inl (fun _ => 0))), ((ma 74), .inl (cy 1, 241, .inl (fun _ => 0))), ((ma 75), .inl (cy 1, 241, .inl (upd (fun _ => 0) 0 1))), ((ma 93), .inl (cy 1, 1000, .inl (fun _ => 0))), ((ma 94), .inl (cy 3, 1001, .inl (fun _ => 0))), ((ma 95), .inl (cy 1, 1000, .inl (fun _ => 0))), ((ma 97), .inl (cy 1, 101, .inl (fun _ => 0))), ((ma 98), .inl (cy 1, 101, .inl (fun _ => 0))), ((ma 99), .inl (cy 1, 101, .inl (fun _ => 0))), ((ma 100), .inl (cy 1, 101, .inl (fun _ => 0)))]) (w1 := []) hP hD [0, 24] [67, 68, 69, 70, 71, 72, 73, 74, 75, 76, 77, 78, 79, 80, 81, 82, 83, 84, 85, 86, 87, 88, 89, 90, 91, 92, 93, 94, 95] rfl rfl (by decide) (by decide) hk1 hFc ht hB
  have hP : va_P D vwCl [((ma 200), mo_0 ma), ((ma 11), .inl (cy 3, 8, .inl (fun _ => 0))), ((ma 12), .inl (cy 1, 8, .inl (fun _ => 0))), ((ma 13), .inl (cy 1, 8, .inl (fun _ => 0))), ((ma 14), .inl (cy 3, 12, .inl (fun _ => 0))), ((ma 15), .inl (cy 1, 12, .inl (fun _ => 0))), ((ma 16), .inl (cy 1, 12, .inl (fun _ => 0))), ((ma 17), .inl (cy 1, 12, .inl (fun _ => 0))), ((ma 18), .inl (cy 1, 12, .inl (fun _ => 0))), ((ma 19), .inl (cy 3, 12, .inl (fun _ => 0))), ((ma 20), .inl (cy 3, 8, .inl (fun _ => 0))), ((ma 21), .inl (cy 1, 8, .inl (fun _ => 0))), ((ma 22), .inl (cy 1, 8, .inl (fun _ => 0))), ((ma 23), .inl (cy 1, 8, .inl (fun _ => 0))), ((ma 24), .inl (cy 1, 8, .inl (fun _ => 0))), ((ma 33), .inl (cy 1, 600, .inl (fun _ => 0))), ((ma 68), .inl (cy 1, 8, .inl (fun _ => 0))), ((ma 69), .inl (cy 1, 8, .inl (fun _ => 0))), ((ma 70), .inl (cy 1, 8, .inl (fun _ => 0))), ((ma 73), .inl (cy 1, 241, .inl (fun _ => 0))), ((ma 74), .inl (cy 1, 241, .inl (fun _ => 0))), ((ma 75), .inl (cy 1, 241, .inl (upd (fun _ => 0) 0 1))), ((ma 93), .inl (cy 1, 1000, .inl (fun _ => 0))), ((ma 94), .inl (cy 3, 1001, .inl (fun _ => 0))), ((ma 95), .inl (cy 1, 1000, .inl (fun _ => 0))), ((ma 97), .inl (cy 1, 101, .inl (fun _ => 0))), ((ma 98), .inl (cy 1, 101, .inl (fun _ => 0))), ((ma 99), .inl (cy 1, 101, .inl (fun _ => 0))), ((ma 100), .inl (cy 1, 101, .inl (fun _ => 0)))] H := hP
  have hD : va_D A [((ma 200), mo_0 ma), ((ma 11), .inl (cy 3, 8, .inl (fun _ => 0))), ((ma 12), .inl (cy 1, 8, .inl (fun _ => 0))), ((ma 13), .inl (cy 1, 8, .inl (fun _ => 0))), ((ma 14), .inl (cy 3, 12, .inl (fun _ => 0))), ((ma 15), .inl (cy 1, 12, .inl (fun _ => 0))), ((ma 16), .inl (cy 1, 12, .inl (fun _ => 0))), ((ma 17), .inl (cy 1, 12, .inl (fun _ => 0))), ((ma 18), .inl (cy 1, 12, .inl (fun _ => 0))), ((ma 19), .inl (cy 3, 12, .inl (fun _ => 0))), ((ma 20), .inl (cy 3, 8, .inl (fun _ => 0))), ((ma 21), .inl (cy 1, 8, .inl (fun _ => 0))), ((ma 22), .inl (cy 1, 8, .inl (fun _ => 0))), ((ma 23), .inl (cy 1, 8, .inl (fun _ => 0))), ((ma 24), .inl (cy 1, 8, .inl (fun _ => 0))), ((ma 33), .inl (cy 1, 600, .inl (fun _ => 0))), ((ma 68), .inl (cy 1, 8, .inl (fun _ => 0))), ((ma 69), .inl (cy 1, 8, .inl (fun _ => 0))), ((ma 70), .inl (cy 1, 8, .inl (fun _ => 0))), ((ma 73), .inl (cy 1, 241, .inl (fun _ => 0))), ((ma 74), .inl (cy 1, 241, .inl (fun _ => 0))), ((ma 75), .inl (cy 1, 241, .inl (upd (fun _ => 0) 0 1))), ((ma 93), .inl (cy 1, 1000, .inl (fun _ => 0))), ((ma 94), .inl (cy 3, 1001, .inl (fun _ => 0))), ((ma 95), .inl (cy 1, 1000, .inl (fun _ => 0))), ((ma 97), .inl (cy 1, 101, .inl (fun _ => 0))), ((ma 98), .inl (cy 1, 101, .inl (fun _ => 0))), ((ma 99), .inl (cy 1, 101, .inl (fun _ => 0))), ((ma 100), .inl (cy 1, 101, .inl (fun _ => 0)))] := hD
  obtain rfl : r_1 = (-1) := hw
  refine lv_aload_n hx hb dL_law_1332 rfl (lv_at hl 1 rfl) ?_
  have hPc := hP.sub (ws' := [((ma 200), mo_0 ma)]) [0] rfl
  have hDc := hD.sub (ws' := [((ma 200), mo_0 ma)]) [0] (by decide) rfl
  have hFc := va_free (wc := [((ma 200), mo_0 ma)]) hD hS hA [0] rfl
  refine va_calli (va_runV (As := []) (rest := [.int (-1)]) ⟨hx, hb, hml, hown, hts⟩ (kX12_since l D cy H.size ma) (cwV 0 hts gc_kX12_since rfl rfl rfl (by decide +kernel) ⟨Nat.le_of_ble_eq_true rfl, Nat.le_of_ble_eq_true rfl⟩) (gp_preV (RX12, TX12, 104) 12 0 hPc hDc hK hN rfl rfl) rfl rfl hl.1 rfl (lv_room (Nat.le_of_ble_eq_true rfl)) dL_law_1333 ⟨Nat.le_of_ble_eq_true rfl, Nat.le_of_ble_eq_true rfl⟩) hS (fun q _ h => hFc q h) hFc (fun r_2 u t H locs ht hvm hw hB hz1 hk1 hS => ?_)
  obtain ⟨hP, hD⟩ := gp_join (wr := []) (w1 := []) hP hD [0] [] rfl rfl (by decide) (by decide) hk1 hFc ht hB
  have hP : va_P D vwCl [] H := hP
  have hD : va_D A [] := hD
  obtain rfl : r_2 = (-1) := hw
  refine lv_icmp_eq (tgt := 1364) hx hb dL_law_1336 (by decide) (fun c_3 => ?_) (fun c_3 => absurd (by decide) c_3)
  refine lv_iinc (v := 7) (lv' := [(3, .int 7), (2, .ref (ma 200)), (1, .ref (xa 0)), (0, .ref b)]) hx hb dL_law_1364 hl (k := 0) rfl (by decide) (by decide) rfl (fun ls hl => ?_)
  refine lv_goto (tgt := 18) hx hb dL_law_1367 (by decide) ?_
  refine lv_iload_n hx hb dL_law_18 rfl (lv_at hl 0 rfl) ?_
  refine lv_aload_n hx hb dL_law_19 rfl (lv_at hl 3 rfl) ?_
  refine va_slen hx hb hX hbl hbA hS dL_law_20 ?_
  refine gp_ni 7 rfl ?_
  refine lv_bipush (v := 7) hx hb dL_law_21 (by decide) ?_
  refine lv_isub hx hb dL_law_23 ?_
  refine gp_ni 0 (by decide) ?_
  refine lv_icmp_gt (tgt := 1370) hx hb dL_law_24 (by decide) (fun c_4 => ?_) (fun c_4 => absurd (by decide) c_4)
  refine lv_iconst (v := 1) hx hb dL_law_1370 (by decide) ?_
  refine va_forget (fun q hq => hSA _ (hS.2.2 q hq)) ?_
  refine W.widen (k := 600000) (n := 7302250) (by decide) (by decide) ?_
  exact lw_ret hx hb hr hlocks dL_law_1371

set_option maxHeartbeats 4000000 in
set_option maxRecDepth 100000 in
theorem law_32 {p : Program} {e : Env} {s : State} {m : MethodId} {below : List Frame} {meth : Method} {c : Code} (l : Launch) {b : Nat} {xs : Nat → Int32} (C0 : lw_At p s m meth c b 7 xs) {D : va_G} {cy : Nat → ClassId} (hK : va_K D vwCl (gp_T cy) s) (hN : gp_N s) (xa ma : Nat → Nat) (fO : Nat → Option Nat) (hO : fO 0 = some (xa 6)) {A : Nat → Prop} (hAe : A = (fun q : Nat => s.heap.size ≤ q)) {H : Heap} {locs : List Loc} {ls : Array Slot} (hP : va_P D vwCl (lw_W cy xa ma fO) H) (hD : va_D A (lw_W cy xa ma fO)) (hS : va_S A s.heap H locs) (hl : lv_has ls 4 [(3, .int 0), (2, .ref (ma 200)), (1, .ref (xa 0)), (0, .ref b)]) : W p l e room_1 s m #[Value.ref b] below meth c H locs 153 14835 (lw_Z below #[Value.ref b] s) (F0 m 1341 ls []) := by
  obtain ⟨hx, hb, hr, hml, hown, hts, hX, hbl, hlocks, hgv⟩ := id C0
  have hown : s.vm.findClass RL = some m.cls := hown
  have hA : ∀ q : Nat, s.heap.size ≤ q → A q := fun q h => by rw [hAe]; exact h
  have hbA : ¬ A b := by rw [hAe]; exact Nat.not_le.mpr hbl
  have hSA : ∀ q : Nat, A q → s.heap.size ≤ q := fun q h => by rw [hAe] at h; exact h
  refine lv_aload_n hx hb dL_law_1341 rfl (lv_at hl 2 rfl) ?_
  refine lv_aload_n hx hb dL_law_1342 rfl (lv_at hl 3 rfl) ?_
  refine lv_iload_n hx hb dL_law_1343 rfl (lv_at hl 0 rfl) ?_
  refine lv_iconst (v := 1) hx hb dL_law_1344 (by decide) ?_
  refine lv_iadd hx hb dL_law_1345 ?_
  refine gp_ni 1 (by decide) ?_
  refine va_sld hx hb hX hbl hbA hS (by unfold vp_in; decide) dL_law_1346 ?_
  refine gp_ni (xs 1) rfl ?_
  have hPc := hP.sub (ws' := [((xa 0), .inr (11, [.ref (xa 1), .ref (xa 3), .ref (xa 7), .ref (xa 11), .ref (xa 20), .ref (xa 24), .ref (xa 25), .ref (xa 29)])), ((xa 7), .inr (10, [.int 0, .ref (xa 8), .ref (xa 9), .ref (xa 10), .ref (xa 42), .ref (xa 43), .int 0])), ((xa 11), .inr (7, [.int (-50), .int 0, .int 50, .int 80, .int (-60), .int (-40), .int 60, .int (-40), .int 0, .int 4, .int 0, .ref (xa 12), .ref (xa 13), .ref (xa 14), .ref (xa 15), .ref (xa 16), .ref (xa 17), .ref (xa 18), .ref (xa 19)])), ((xa 12), .inl (cy 3, 8, .inl (fun _ => 0))), ((xa 15), .inl (cy 3, 12, .inl (fun _ => 0))), ((xa 18), .inl (cy 3, 8, .inl (fun _ => 0))), ((xa 24), .inr (4, [.int 0, .int 0, .int 0, .int 0, .int 0])), ((xa 29), .inr (1, [.int 0, .ref (xa 30), .ref (xa 31), .ref (xa 32), .ref (xa 33), .ref (xa 34), .ref (xa 35), .ref (xa 36), .ref (xa 37)]))]) [0, 7, 11, 12, 15, 18, 24, 29] rfl
  have hDc := hD.sub (ws' := [((xa 0), .inr (11, [.ref (xa 1), .ref (xa 3), .ref (xa 7), .ref (xa 11), .ref (xa 20), .ref (xa 24), .ref (xa 25), .ref (xa 29)])), ((xa 7), .inr (10, [.int 0, .ref (xa 8), .ref (xa 9), .ref (xa 10), .ref (xa 42), .ref (xa 43), .int 0])), ((xa 11), .inr (7, [.int (-50), .int 0, .int 50, .int 80, .int (-60), .int (-40), .int 60, .int (-40), .int 0, .int 4, .int 0, .ref (xa 12), .ref (xa 13), .ref (xa 14), .ref (xa 15), .ref (xa 16), .ref (xa 17), .ref (xa 18), .ref (xa 19)])), ((xa 12), .inl (cy 3, 8, .inl (fun _ => 0))), ((xa 15), .inl (cy 3, 12, .inl (fun _ => 0))), ((xa 18), .inl (cy 3, 8, .inl (fun _ => 0))), ((xa 24), .inr (4, [.int 0, .int 0, .int 0, .int 0, .int 0])), ((xa 29), .inr (1, [.int 0, .ref (xa 30), .ref (xa 31), .ref (xa 32), .ref (xa 33), .ref (xa 34), .ref (xa 35), .ref (xa 36), .ref (xa 37)]))]) [0, 7, 11, 12, 15, 18, 24, 29] (by decide) rfl
  have hFc := va_free (wc := [((xa 0), .inr (11, [.ref (xa 1), .ref (xa 3), .ref (xa 7), .ref (xa 11), .ref (xa 20), .ref (xa 24), .ref (xa 25), .ref (xa 29)])), ((xa 7), .inr (10, [.int 0, .ref (xa 8), .ref (xa 9), .ref (xa 10), .ref (xa 42), .ref (xa 43), .int 0])), ((xa 11), .inr (7, [.int (-50), .int 0, .int 50, .int 80, .int (-60), .int (-40), .int 60, .int (-40), .int 0, .int 4, .int 0, .ref (xa 12), .ref (xa 13), .ref (xa 14), .ref (xa 15), .ref (xa 16), .ref (xa 17), .ref (xa 18), .ref (xa 19)])), ((xa 12), .inl (cy 3, 8, .inl (fun _ => 0))), ((xa 15), .inl (cy 3, 12, .inl (fun _ => 0))), ((xa 18), .inl (cy 3, 8, .inl (fun _ => 0))), ((xa 24), .inr (4, [.int 0, .int 0, .int 0, .int 0, .int 0])), ((xa 29), .inr (1, [.int 0, .ref (xa 30), .ref (xa 31), .ref (xa 32), .ref (xa 33), .ref (xa 34), .ref (xa 35), .ref (xa 36), .ref (xa 37)]))]) hD hS hA [0, 7, 11, 12, 15, 18, 24, 29] rfl
  refine va_calli (va_runV (As := [.int (xs 1)]) (rest := []) ⟨hx, hb, hml, hown, hts⟩ (kX11_all l D cy H.size xa (xs 1)) (cwV 1 hts gc_kX11_all rfl rfl rfl (by decide +kernel) ⟨Nat.le_of_ble_eq_true rfl, Nat.le_of_ble_eq_true rfl⟩) (gp_preV (RX11, TX11, 8) 11 0 hPc hDc hK hN rfl rfl) rfl rfl hl.1 rfl (lv_room (Nat.le_of_ble_eq_true rfl)) dL_law_1347 ⟨Nat.le_of_ble_eq_true rfl, Nat.le_of_ble_eq_true rfl⟩) hS (fun q _ h => hFc q h) hFc (fun r_1 u t H locs ht hvm hw hB hz1 hk1 hS => ?_)
  obtain ⟨hP, hD⟩ := gp_join (wr := [((ma 200), mo_0 ma), ((ma 11), .inl (cy 3, 8, .inl (fun _ => 0))), ((ma 12), .inl (cy 1, 8, .inl (fun _ => 0))), ((ma 13), .inl (cy 1, 8, .inl (fun _ => 0))), ((ma 14), .inl (cy 3, 12, .inl (fun _ => 0))), ((ma 15), .inl (cy 1, 12, .inl (fun _ => 0))), ((ma 16), .inl (cy 1, 12, .inl (fun _ => 0))), ((ma 17), .inl (cy 1, 12, .inl (fun _ => 0))), ((ma 18), .inl (cy 1, 12, .inl (fun _ => 0))), ((ma 19), .inl (cy 3, 12, .inl (fun _ => 0))), ((ma 20), .inl (cy 3, 8, .inl (fun _ => 0))), ((ma 21), .inl (cy 1, 8, .inl (fun _ => 0))), ((ma 22), .inl (cy 1, 8, .inl (fun _ => 0))), ((ma 23), .inl (cy 1, 8, .inl (fun _ => 0))), ((ma 24), .inl (cy 1, 8, .inl (fun _ => 0))), ((ma 33), .inl (cy 1, 600, .inl (fun _ => 0))), ((ma 68), .inl (cy 1, 8, .inl (fun _ => 0))), ((ma 69), .inl (cy 1, 8, .inl (fun _ => 0))), ((ma 70), .inl (cy 1, 8, .inl (fun _ => 0))), ((ma 73), .inl (cy 1, 241, .inl (fun _ => 0))), ((ma 74), .inl (cy 1, 241, .inl (fun _ => 0))), ((ma 75), .inl (cy 1, 241, .inl (upd (fun _ => 0) 0 1))), ((ma 93), .inl (cy 1, 1000, .inl (fun _ => 0))), ((ma 94), .inl (cy 3, 1001, .inl (fun _ => 0))), ((ma 95), .inl (cy 1, 1000, .inl (fun _ => 0))), ((ma 97), .inl (cy 1, 101, .inl (fun _ => 0))), ((ma 98), .inl (cy 1, 101, .inl (fun _ => 0))), ((ma 99), .inl (cy 1, 101, .inl (fun _ => 0))), ((ma 100), .inl (cy 1, 101, .inl (fun _ => 0)))]) (w1 := []) hP hD [0, 7, 11, 12, 15, 18, 24, 29] [67, 68, 69, 70, 71, 72, 73, 74, 75, 76, 77, 78, 79, 80, 81, 82, 83, 84, 85, 86, 87, 88, 89, 90, 91, 92, 93, 94, 95] rfl rfl (by decide) (by decide) hk1 hFc ht hB
  have hP : va_P D vwCl [((ma 200), mo_0 ma), ((ma 11), .inl (cy 3, 8, .inl (fun _ => 0))), ((ma 12), .inl (cy 1, 8, .inl (fun _ => 0))), ((ma 13), .inl (cy 1, 8, .inl (fun _ => 0))), ((ma 14), .inl (cy 3, 12, .inl (fun _ => 0))), ((ma 15), .inl (cy 1, 12, .inl (fun _ => 0))), ((ma 16), .inl (cy 1, 12, .inl (fun _ => 0))), ((ma 17), .inl (cy 1, 12, .inl (fun _ => 0))), ((ma 18), .inl (cy 1, 12, .inl (fun _ => 0))), ((ma 19), .inl (cy 3, 12, .inl (fun _ => 0))), ((ma 20), .inl (cy 3, 8, .inl (fun _ => 0))), ((ma 21), .inl (cy 1, 8, .inl (fun _ => 0))), ((ma 22), .inl (cy 1, 8, .inl (fun _ => 0))), ((ma 23), .inl (cy 1, 8, .inl (fun _ => 0))), ((ma 24), .inl (cy 1, 8, .inl (fun _ => 0))), ((ma 33), .inl (cy 1, 600, .inl (fun _ => 0))), ((ma 68), .inl (cy 1, 8, .inl (fun _ => 0))), ((ma 69), .inl (cy 1, 8, .inl (fun _ => 0))), ((ma 70), .inl (cy 1, 8, .inl (fun _ => 0))), ((ma 73), .inl (cy 1, 241, .inl (fun _ => 0))), ((ma 74), .inl (cy 1, 241, .inl (fun _ => 0))), ((ma 75), .inl (cy 1, 241, .inl (upd (fun _ => 0) 0 1))), ((ma 93), .inl (cy 1, 1000, .inl (fun _ => 0))), ((ma 94), .inl (cy 3, 1001, .inl (fun _ => 0))), ((ma 95), .inl (cy 1, 1000, .inl (fun _ => 0))), ((ma 97), .inl (cy 1, 101, .inl (fun _ => 0))), ((ma 98), .inl (cy 1, 101, .inl (fun _ => 0))), ((ma 99), .inl (cy 1, 101, .inl (fun _ => 0))), ((ma 100), .inl (cy 1, 101, .inl (fun _ => 0)))] H := hP
  have hD : va_D A [((ma 200), mo_0 ma), ((ma 11), .inl (cy 3, 8, .inl (fun _ => 0))), ((ma 12), .inl (cy 1, 8, .inl (fun _ => 0))), ((ma 13), .inl (cy 1, 8, .inl (fun _ => 0))), ((ma 14), .inl (cy 3, 12, .inl (fun _ => 0))), ((ma 15), .inl (cy 1, 12, .inl (fun _ => 0))), ((ma 16), .inl (cy 1, 12, .inl (fun _ => 0))), ((ma 17), .inl (cy 1, 12, .inl (fun _ => 0))), ((ma 18), .inl (cy 1, 12, .inl (fun _ => 0))), ((ma 19), .inl (cy 3, 12, .inl (fun _ => 0))), ((ma 20), .inl (cy 3, 8, .inl (fun _ => 0))), ((ma 21), .inl (cy 1, 8, .inl (fun _ => 0))), ((ma 22), .inl (cy 1, 8, .inl (fun _ => 0))), ((ma 23), .inl (cy 1, 8, .inl (fun _ => 0))), ((ma 24), .inl (cy 1, 8, .inl (fun _ => 0))), ((ma 33), .inl (cy 1, 600, .inl (fun _ => 0))), ((ma 68), .inl (cy 1, 8, .inl (fun _ => 0))), ((ma 69), .inl (cy 1, 8, .inl (fun _ => 0))), ((ma 70), .inl (cy 1, 8, .inl (fun _ => 0))), ((ma 73), .inl (cy 1, 241, .inl (fun _ => 0))), ((ma 74), .inl (cy 1, 241, .inl (fun _ => 0))), ((ma 75), .inl (cy 1, 241, .inl (upd (fun _ => 0) 0 1))), ((ma 93), .inl (cy 1, 1000, .inl (fun _ => 0))), ((ma 94), .inl (cy 3, 1001, .inl (fun _ => 0))), ((ma 95), .inl (cy 1, 1000, .inl (fun _ => 0))), ((ma 97), .inl (cy 1, 101, .inl (fun _ => 0))), ((ma 98), .inl (cy 1, 101, .inl (fun _ => 0))), ((ma 99), .inl (cy 1, 101, .inl (fun _ => 0))), ((ma 100), .inl (cy 1, 101, .inl (fun _ => 0)))] := hD
  obtain rfl : r_1 = (if sp_in (xs 1) 0 5 then 0 else (-1)) := hw
  refine lv_aload_n hx hb dL_law_1350 rfl (lv_at hl 1 rfl) ?_
  refine lv_aload_n hx hb dL_law_1351 rfl (lv_at hl 3 rfl) ?_
  refine lv_iload_n hx hb dL_law_1352 rfl (lv_at hl 0 rfl) ?_
  refine lv_iconst (v := 1) hx hb dL_law_1353 (by decide) ?_
  refine lv_iadd hx hb dL_law_1354 ?_
  refine gp_ni 1 (by decide) ?_
  refine va_sld hx hb hX hbl hbA hS (by unfold vp_in; decide) dL_law_1355 ?_
  refine gp_ni (xs 1) rfl ?_
  have hPc := hP.sub (ws' := [((ma 200), mo_0 ma), ((ma 11), .inl (cy 3, 8, .inl (fun _ => 0))), ((ma 14), .inl (cy 3, 12, .inl (fun _ => 0))), ((ma 20), .inl (cy 3, 8, .inl (fun _ => 0)))]) [0, 1, 4, 10] rfl
  have hDc := hD.sub (ws' := [((ma 200), mo_0 ma), ((ma 11), .inl (cy 3, 8, .inl (fun _ => 0))), ((ma 14), .inl (cy 3, 12, .inl (fun _ => 0))), ((ma 20), .inl (cy 3, 8, .inl (fun _ => 0)))]) [0, 1, 4, 10] (by decide) rfl
  have hFc := va_free (wc := [((ma 200), mo_0 ma), ((ma 11), .inl (cy 3, 8, .inl (fun _ => 0))), ((ma 14), .inl (cy 3, 12, .inl (fun _ => 0))), ((ma 20), .inl (cy 3, 8, .inl (fun _ => 0)))]) hD hS hA [0, 1, 4, 10] rfl
  refine va_calli (va_runV (As := [.int (xs 1)]) (rest := [.int (if sp_in (xs 1) 0 5 then 0 else (-1))]) ⟨hx, hb, hml, hown, hts⟩ (kX12_all l D cy H.size ma (xs 1)) (cwV 1 hts gc_kX12_all rfl rfl rfl (by decide +kernel) ⟨Nat.le_of_ble_eq_true rfl, Nat.le_of_ble_eq_true rfl⟩) (gp_preV (RX12, TX12, 104) 12 0 hPc hDc hK hN rfl rfl) rfl rfl hl.1 rfl (lv_room (Nat.le_of_ble_eq_true rfl)) dL_law_1356 ⟨Nat.le_of_ble_eq_true rfl, Nat.le_of_ble_eq_true rfl⟩) hS (fun q _ h => hFc q h) hFc (fun r_2 u t H locs ht hvm hw hB hz1 hk1 hS => ?_)
  obtain ⟨hP, hD⟩ := gp_join (wr := []) (w1 := []) hP hD [0, 1, 4, 10] [] rfl rfl (by decide) (by decide) hk1 hFc ht hB
  have hP : va_P D vwCl [] H := hP
  have hD : va_D A [] := hD
  obtain rfl : r_2 = (if sp_in (xs 1) 0 5 then 0 else (-1)) := hw
  refine lv_icmp_eq (tgt := 1364) hx hb dL_law_1359 (by decide) (fun c_3 => ?_) (fun c_3 => absurd rfl c_3)
  refine lv_iinc (v := 7) (lv' := [(3, .int 7), (2, .ref (ma 200)), (1, .ref (xa 0)), (0, .ref b)]) hx hb dL_law_1364 hl (k := 0) rfl (by decide) (by decide) rfl (fun ls hl => ?_)
  refine lv_goto (tgt := 18) hx hb dL_law_1367 (by decide) ?_
  refine lv_iload_n hx hb dL_law_18 rfl (lv_at hl 0 rfl) ?_
  refine lv_aload_n hx hb dL_law_19 rfl (lv_at hl 3 rfl) ?_
  refine va_slen hx hb hX hbl hbA hS dL_law_20 ?_
  refine gp_ni 7 rfl ?_
  refine lv_bipush (v := 7) hx hb dL_law_21 (by decide) ?_
  refine lv_isub hx hb dL_law_23 ?_
  refine gp_ni 0 (by decide) ?_
  refine lv_icmp_gt (tgt := 1370) hx hb dL_law_24 (by decide) (fun c_4 => ?_) (fun c_4 => absurd (by decide) c_4)
  refine lv_iconst (v := 1) hx hb dL_law_1370 (by decide) ?_
  refine va_forget (fun q hq => hSA _ (hS.2.2 q hq)) ?_
  refine W.widen (k := 600000) (n := 7302250) (by decide) (by decide) ?_
  exact lw_ret hx hb hr hlocks dL_law_1371

set_option maxHeartbeats 4000000 in
set_option maxRecDepth 100000 in
theorem law_d {p : Program} {e : Env} {s : State} {m : MethodId} {below : List Frame} {meth : Method} {c : Code} (l : Launch) {b : Nat} {xs : Nat → Int32} (C0 : lw_At p s m meth c b 7 xs) {D : va_G} {cy : Nat → ClassId} (hK : va_K D vwCl (gp_T cy) s) (hN : gp_N s) (xa ma : Nat → Nat) (fO : Nat → Option Nat) (hO : fO 0 = some (xa 6)) {A : Nat → Prop} (hAe : A = (fun q : Nat => s.heap.size ≤ q)) {H : Heap} {locs : List Loc} {ls : Array Slot} (hP : va_P D vwCl (lw_W cy xa ma fO) H) (hD : va_D A (lw_W cy xa ma fO)) (hS : va_S A s.heap H locs) (hl : lv_has ls 4 [(3, .int 0), (2, .ref (ma 200)), (1, .ref (xa 0)), (0, .ref b)]) : W p l e room_1 s m #[Value.ref b] below meth c H locs 153 14835 (lw_Z below #[Value.ref b] s) (F0 m 1364 ls []) := by
  obtain ⟨hx, hb, hr, hml, hown, hts, hX, hbl, hlocks, hgv⟩ := id C0
  have hown : s.vm.findClass RL = some m.cls := hown
  have hA : ∀ q : Nat, s.heap.size ≤ q → A q := fun q h => by rw [hAe]; exact h
  have hbA : ¬ A b := by rw [hAe]; exact Nat.not_le.mpr hbl
  have hSA : ∀ q : Nat, A q → s.heap.size ≤ q := fun q h => by rw [hAe] at h; exact h
  refine lv_iinc (v := 7) (lv' := [(3, .int 7), (2, .ref (ma 200)), (1, .ref (xa 0)), (0, .ref b)]) hx hb dL_law_1364 hl (k := 0) rfl (by decide) (by decide) rfl (fun ls hl => ?_)
  refine lv_goto (tgt := 18) hx hb dL_law_1367 (by decide) ?_
  refine lv_iload_n hx hb dL_law_18 rfl (lv_at hl 0 rfl) ?_
  refine lv_aload_n hx hb dL_law_19 rfl (lv_at hl 3 rfl) ?_
  refine va_slen hx hb hX hbl hbA hS dL_law_20 ?_
  refine gp_ni 7 rfl ?_
  refine lv_bipush (v := 7) hx hb dL_law_21 (by decide) ?_
  refine lv_isub hx hb dL_law_23 ?_
  refine gp_ni 0 (by decide) ?_
  refine lv_icmp_gt (tgt := 1370) hx hb dL_law_24 (by decide) (fun c_1 => ?_) (fun c_1 => absurd (by decide) c_1)
  refine lv_iconst (v := 1) hx hb dL_law_1370 (by decide) ?_
  refine va_forget (fun q hq => hSA _ (hS.2.2 q hq)) ?_
  refine W.widen (k := 600000) (n := 7302250) (by decide) (by decide) ?_
  exact lw_ret hx hb hr hlocks dL_law_1371
