set_option maxHeartbeats 4000000 in
set_option maxRecDepth 100000 in
theorem law_0 {p : Program} {e : Env} {s : State} {m : MethodId} {below : List Frame} {meth : Method} {c : Code} (l : Launch) {b : Nat} {xs : Nat → Int32} (C0 : lw_At p s m meth c b 7 xs) {D : va_G} {cy : Nat → ClassId} (hK : va_K D vwCl (gp_T cy) s) (hN : gp_N s) (xa ma : Nat → Nat) (fO : Nat → Option Nat) (hO : fO 0 = some (xa 6)) {A : Nat → Prop} (hAe : A = (fun q : Nat => s.heap.size ≤ q)) {H : Heap} {locs : List Loc} {ls : Array Slot} (hP : va_P D vwCl (lw_W cy xa ma fO) H) (hD : va_D A (lw_W cy xa ma fO)) (hS : va_S A s.heap H locs) (hl : lv_has ls 4 [(3, .int 0), (2, .ref (ma 200)), (1, .ref (xa 0)), (0, .ref b)]) : W p l e room_1 s m #[Value.ref b] below meth c H locs 153 14835 (lw_Z below #[Value.ref b] s) (F0 m 180 ls []) := by
  obtain ⟨hx, hb, hr, hml, hown, hts, hX, hbl, hlocks, hgv⟩ := id C0
  have hown : s.vm.findClass RL = some m.cls := hown
  have hA : ∀ q : Nat, s.heap.size ≤ q → A q := fun q h => by rw [hAe]; exact h
  have hbA : ¬ A b := by rw [hAe]; exact Nat.not_le.mpr hbl
  have hSA : ∀ q : Nat, A q → s.heap.size ≤ q := fun q h => by rw [hAe] at h; exact h
  refine lv_aload_n hx hb dL_law_180 rfl (lv_at hl 2 rfl) ?_
  refine lv_aload_n hx hb dL_law_181 rfl (lv_at hl 3 rfl) ?_
  refine lv_iload_n hx hb dL_law_182 rfl (lv_at hl 0 rfl) ?_
  refine lv_iconst (v := 1) hx hb dL_law_183 (by decide) ?_
  refine lv_iadd hx hb dL_law_184 ?_
  refine gp_ni 1 (by decide) ?_
  refine va_sld hx hb hX hbl hbA hS (by unfold vp_in; decide) dL_law_185 ?_
  refine gp_ni (xs 1) rfl ?_
  refine lv_aload_n hx hb dL_law_186 rfl (lv_at hl 3 rfl) ?_
  refine lv_iload_n hx hb dL_law_187 rfl (lv_at hl 0 rfl) ?_
  refine lv_iconst (v := 2) hx hb dL_law_188 (by decide) ?_
  refine lv_iadd hx hb dL_law_189 ?_
  refine gp_ni 2 (by decide) ?_
  refine va_sld hx hb hX hbl hbA hS (by unfold vp_in; decide) dL_law_190 ?_
  refine gp_ni (xs 2) rfl ?_
  refine lv_aload_n hx hb dL_law_191 rfl (lv_at hl 3 rfl) ?_
  refine lv_iload_n hx hb dL_law_192 rfl (lv_at hl 0 rfl) ?_
  refine lv_iconst (v := 3) hx hb dL_law_193 (by decide) ?_
  refine lv_iadd hx hb dL_law_194 ?_
  refine gp_ni 3 (by decide) ?_
  refine va_sld hx hb hX hbl hbA hS (by unfold vp_in; decide) dL_law_195 ?_
  refine gp_ni (xs 3) rfl ?_
  refine lv_aload_n hx hb dL_law_196 rfl (lv_at hl 3 rfl) ?_
  refine lv_iload_n hx hb dL_law_197 rfl (lv_at hl 0 rfl) ?_
  refine lv_iconst (v := 4) hx hb dL_law_198 (by decide) ?_
  refine lv_iadd hx hb dL_law_199 ?_
  refine gp_ni 4 (by decide) ?_
  refine va_sld hx hb hX hbl hbA hS (by unfold vp_in; decide) dL_law_200 ?_
  refine gp_ni (xs 4) rfl ?_
  refine lv_aload_n hx hb dL_law_201 rfl (lv_at hl 3 rfl) ?_
  refine lv_iload_n hx hb dL_law_202 rfl (lv_at hl 0 rfl) ?_
  refine lv_iconst (v := 5) hx hb dL_law_203 (by decide) ?_
  refine lv_iadd hx hb dL_law_204 ?_
  refine gp_ni 5 (by decide) ?_
  refine va_sld hx hb hX hbl hbA hS (by unfold vp_in; decide) dL_law_205 ?_
  refine gp_ni (xs 5) rfl ?_
  have hPc := hP.sub (ws' := [((xa 0), .inr (11, [.ref (xa 1), .ref (xa 3), .ref (xa 7), .ref (xa 11), .ref (xa 20), .ref (xa 24), .ref (xa 25), .ref (xa 29)])), ((xa 1), .inr (9, [.int 0, .int 0, .int (-1), .int 0, .int 0, .int 0, .ref (xa 2)])), ((xa 2), .inl (cy 0, 600, .inl (fun _ => 0)))]) [0, 1, 2] rfl
  have hDc := hD.sub (ws' := [((xa 0), .inr (11, [.ref (xa 1), .ref (xa 3), .ref (xa 7), .ref (xa 11), .ref (xa 20), .ref (xa 24), .ref (xa 25), .ref (xa 29)])), ((xa 1), .inr (9, [.int 0, .int 0, .int (-1), .int 0, .int 0, .int 0, .ref (xa 2)])), ((xa 2), .inl (cy 0, 600, .inl (fun _ => 0)))]) [0, 1, 2] (by decide) rfl
  have hFc := va_free (wc := [((xa 0), .inr (11, [.ref (xa 1), .ref (xa 3), .ref (xa 7), .ref (xa 11), .ref (xa 20), .ref (xa 24), .ref (xa 25), .ref (xa 29)])), ((xa 1), .inr (9, [.int 0, .int 0, .int (-1), .int 0, .int 0, .int 0, .ref (xa 2)])), ((xa 2), .inl (cy 0, 600, .inl (fun _ => 0)))]) hD hS hA [0, 1, 2] rfl
  refine va_calli (va_runV (As := [.int (xs 1), .int (xs 2), .int (xs 3), .int (xs 4), .int (xs 5)]) (rest := []) ⟨hx, hb, hml, hown, hts⟩ (kX11_feed l D cy H.size xa (xs 1) (xs 2) (xs 3) (xs 4) (xs 5)) (cwV 5 hts gc_kX11_feed rfl rfl rfl (by decide +kernel) ⟨Nat.le_of_ble_eq_true rfl, Nat.le_of_ble_eq_true rfl⟩) (gp_preV (RX11, TX11, 8) 11 0 hPc hDc hK hN rfl rfl) rfl rfl hl.1 rfl (lv_room (Nat.le_of_ble_eq_true rfl)) dL_law_206 ⟨Nat.le_of_ble_eq_true rfl, Nat.le_of_ble_eq_true rfl⟩) hS (fun q _ h => hFc q h) hFc (fun r_1 u t H locs ht hvm hw hB hz1 hk1 hS => ?_)
  obtain ⟨hP, hD⟩ := gp_join (wr := [((ma 200), mo_0 ma), ((ma 11), .inl (cy 3, 8, .inl (fun _ => 0))), ((ma 12), .inl (cy 1, 8, .inl (fun _ => 0))), ((ma 13), .inl (cy 1, 8, .inl (fun _ => 0))), ((ma 14), .inl (cy 3, 12, .inl (fun _ => 0))), ((ma 15), .inl (cy 1, 12, .inl (fun _ => 0))), ((ma 16), .inl (cy 1, 12, .inl (fun _ => 0))), ((ma 17), .inl (cy 1, 12, .inl (fun _ => 0))), ((ma 18), .inl (cy 1, 12, .inl (fun _ => 0))), ((ma 19), .inl (cy 3, 12, .inl (fun _ => 0))), ((ma 20), .inl (cy 3, 8, .inl (fun _ => 0))), ((ma 21), .inl (cy 1, 8, .inl (fun _ => 0))), ((ma 22), .inl (cy 1, 8, .inl (fun _ => 0))), ((ma 23), .inl (cy 1, 8, .inl (fun _ => 0))), ((ma 24), .inl (cy 1, 8, .inl (fun _ => 0))), ((ma 33), .inl (cy 1, 600, .inl (fun _ => 0))), ((ma 68), .inl (cy 1, 8, .inl (fun _ => 0))), ((ma 69), .inl (cy 1, 8, .inl (fun _ => 0))), ((ma 70), .inl (cy 1, 8, .inl (fun _ => 0))), ((ma 73), .inl (cy 1, 241, .inl (fun _ => 0))), ((ma 74), .inl (cy 1, 241, .inl (fun _ => 0))), ((ma 75), .inl (cy 1, 241, .inl (upd (fun _ => 0) 0 1))), ((ma 93), .inl (cy 1, 1000, .inl (fun _ => 0))), ((ma 94), .inl (cy 3, 1001, .inl (fun _ => 0))), ((ma 95), .inl (cy 1, 1000, .inl (fun _ => 0))), ((ma 97), .inl (cy 1, 101, .inl (fun _ => 0))), ((ma 98), .inl (cy 1, 101, .inl (fun _ => 0))), ((ma 99), .inl (cy 1, 101, .inl (fun _ => 0))), ((ma 100), .inl (cy 1, 101, .inl (fun _ => 0)))]) (w1 := []) hP hD [0, 1, 2] [67, 68, 69, 70, 71, 72, 73, 74, 75, 76, 77, 78, 79, 80, 81, 82, 83, 84, 85, 86, 87, 88, 89, 90, 91, 92, 93, 94, 95] rfl rfl (by decide) (by decide) hk1 hFc ht hB
  have hP : va_P D vwCl [((ma 200), mo_0 ma), ((ma 11), .inl (cy 3, 8, .inl (fun _ => 0))), ((ma 12), .inl (cy 1, 8, .inl (fun _ => 0))), ((ma 13), .inl (cy 1, 8, .inl (fun _ => 0))), ((ma 14), .inl (cy 3, 12, .inl (fun _ => 0))), ((ma 15), .inl (cy 1, 12, .inl (fun _ => 0))), ((ma 16), .inl (cy 1, 12, .inl (fun _ => 0))), ((ma 17), .inl (cy 1, 12, .inl (fun _ => 0))), ((ma 18), .inl (cy 1, 12, .inl (fun _ => 0))), ((ma 19), .inl (cy 3, 12, .inl (fun _ => 0))), ((ma 20), .inl (cy 3, 8, .inl (fun _ => 0))), ((ma 21), .inl (cy 1, 8, .inl (fun _ => 0))), ((ma 22), .inl (cy 1, 8, .inl (fun _ => 0))), ((ma 23), .inl (cy 1, 8, .inl (fun _ => 0))), ((ma 24), .inl (cy 1, 8, .inl (fun _ => 0))), ((ma 33), .inl (cy 1, 600, .inl (fun _ => 0))), ((ma 68), .inl (cy 1, 8, .inl (fun _ => 0))), ((ma 69), .inl (cy 1, 8, .inl (fun _ => 0))), ((ma 70), .inl (cy 1, 8, .inl (fun _ => 0))), ((ma 73), .inl (cy 1, 241, .inl (fun _ => 0))), ((ma 74), .inl (cy 1, 241, .inl (fun _ => 0))), ((ma 75), .inl (cy 1, 241, .inl (upd (fun _ => 0) 0 1))), ((ma 93), .inl (cy 1, 1000, .inl (fun _ => 0))), ((ma 94), .inl (cy 3, 1001, .inl (fun _ => 0))), ((ma 95), .inl (cy 1, 1000, .inl (fun _ => 0))), ((ma 97), .inl (cy 1, 101, .inl (fun _ => 0))), ((ma 98), .inl (cy 1, 101, .inl (fun _ => 0))), ((ma 99), .inl (cy 1, 101, .inl (fun _ => 0))), ((ma 100), .inl (cy 1, 101, .inl (fun _ => 0)))] H := hP
  have hD : va_D A [((ma 200), mo_0 ma), ((ma 11), .inl (cy 3, 8, .inl (fun _ => 0))), ((ma 12), .inl (cy 1, 8, .inl (fun _ => 0))), ((ma 13), .inl (cy 1, 8, .inl (fun _ => 0))), ((ma 14), .inl (cy 3, 12, .inl (fun _ => 0))), ((ma 15), .inl (cy 1, 12, .inl (fun _ => 0))), ((ma 16), .inl (cy 1, 12, .inl (fun _ => 0))), ((ma 17), .inl (cy 1, 12, .inl (fun _ => 0))), ((ma 18), .inl (cy 1, 12, .inl (fun _ => 0))), ((ma 19), .inl (cy 3, 12, .inl (fun _ => 0))), ((ma 20), .inl (cy 3, 8, .inl (fun _ => 0))), ((ma 21), .inl (cy 1, 8, .inl (fun _ => 0))), ((ma 22), .inl (cy 1, 8, .inl (fun _ => 0))), ((ma 23), .inl (cy 1, 8, .inl (fun _ => 0))), ((ma 24), .inl (cy 1, 8, .inl (fun _ => 0))), ((ma 33), .inl (cy 1, 600, .inl (fun _ => 0))), ((ma 68), .inl (cy 1, 8, .inl (fun _ => 0))), ((ma 69), .inl (cy 1, 8, .inl (fun _ => 0))), ((ma 70), .inl (cy 1, 8, .inl (fun _ => 0))), ((ma 73), .inl (cy 1, 241, .inl (fun _ => 0))), ((ma 74), .inl (cy 1, 241, .inl (fun _ => 0))), ((ma 75), .inl (cy 1, 241, .inl (upd (fun _ => 0) 0 1))), ((ma 93), .inl (cy 1, 1000, .inl (fun _ => 0))), ((ma 94), .inl (cy 3, 1001, .inl (fun _ => 0))), ((ma 95), .inl (cy 1, 1000, .inl (fun _ => 0))), ((ma 97), .inl (cy 1, 101, .inl (fun _ => 0))), ((ma 98), .inl (cy 1, 101, .inl (fun _ => 0))), ((ma 99), .inl (cy 1, 101, .inl (fun _ => 0))), ((ma 100), .inl (cy 1, 101, .inl (fun _ => 0)))] := hD
  obtain rfl : r_1 = 20 := hw
  refine lv_aload_n hx hb dL_law_209 rfl (lv_at hl 1 rfl) ?_
  refine lv_aload_n hx hb dL_law_210 rfl (lv_at hl 3 rfl) ?_
  refine lv_iload_n hx hb dL_law_211 rfl (lv_at hl 0 rfl) ?_
  refine lv_iconst (v := 1) hx hb dL_law_212 (by decide) ?_
  refine lv_iadd hx hb dL_law_213 ?_
  refine gp_ni 1 (by decide) ?_
  refine va_sld hx hb hX hbl hbA hS (by unfold vp_in; decide) dL_law_214 ?_
  refine gp_ni (xs 1) rfl ?_
  refine lv_aload_n hx hb dL_law_215 rfl (lv_at hl 3 rfl) ?_
  refine lv_iload_n hx hb dL_law_216 rfl (lv_at hl 0 rfl) ?_
  refine lv_iconst (v := 2) hx hb dL_law_217 (by decide) ?_
  refine lv_iadd hx hb dL_law_218 ?_
  refine gp_ni 2 (by decide) ?_
  refine va_sld hx hb hX hbl hbA hS (by unfold vp_in; decide) dL_law_219 ?_
  refine gp_ni (xs 2) rfl ?_
  refine lv_aload_n hx hb dL_law_220 rfl (lv_at hl 3 rfl) ?_
  refine lv_iload_n hx hb dL_law_221 rfl (lv_at hl 0 rfl) ?_
  refine lv_iconst (v := 3) hx hb dL_law_222 (by decide) ?_
  refine lv_iadd hx hb dL_law_223 ?_
  refine gp_ni 3 (by decide) ?_
  refine va_sld hx hb hX hbl hbA hS (by unfold vp_in; decide) dL_law_224 ?_
  refine gp_ni (xs 3) rfl ?_
  refine lv_aload_n hx hb dL_law_225 rfl (lv_at hl 3 rfl) ?_
  refine lv_iload_n hx hb dL_law_226 rfl (lv_at hl 0 rfl) ?_
  refine lv_iconst (v := 4) hx hb dL_law_227 (by decide) ?_
  refine lv_iadd hx hb dL_law_228 ?_
  refine gp_ni 4 (by decide) ?_
  refine va_sld hx hb hX hbl hbA hS (by unfold vp_in; decide) dL_law_229 ?_
  refine gp_ni (xs 4) rfl ?_
  refine lv_aload_n hx hb dL_law_230 rfl (lv_at hl 3 rfl) ?_
  refine lv_iload_n hx hb dL_law_231 rfl (lv_at hl 0 rfl) ?_
  refine lv_iconst (v := 5) hx hb dL_law_232 (by decide) ?_
  refine lv_iadd hx hb dL_law_233 ?_
  refine gp_ni 5 (by decide) ?_
  refine va_sld hx hb hX hbl hbA hS (by unfold vp_in; decide) dL_law_234 ?_
  refine gp_ni (xs 5) rfl ?_
  have hPc := hP.sub (ws' := [((ma 200), mo_0 ma), ((ma 33), .inl (cy 1, 600, .inl (fun _ => 0)))]) [0, 15] rfl
  have hDc := hD.sub (ws' := [((ma 200), mo_0 ma), ((ma 33), .inl (cy 1, 600, .inl (fun _ => 0)))]) [0, 15] (by decide) rfl
  have hFc := va_free (wc := [((ma 200), mo_0 ma), ((ma 33), .inl (cy 1, 600, .inl (fun _ => 0)))]) hD hS hA [0, 15] rfl
  refine va_calli (va_runV (As := [.int (xs 1), .int (xs 2), .int (xs 3), .int (xs 4), .int (xs 5)]) (rest := [.int 20]) ⟨hx, hb, hml, hown, hts⟩ (kX12_feed l D cy H.size ma (xs 1) (xs 2) (xs 3) (xs 4) (xs 5)) (cwV 5 hts gc_kX12_feed rfl rfl rfl (by decide +kernel) ⟨Nat.le_of_ble_eq_true rfl, Nat.le_of_ble_eq_true rfl⟩) (gp_preV (RX12, TX12, 104) 12 0 hPc hDc hK hN rfl rfl) rfl rfl hl.1 rfl (lv_room (Nat.le_of_ble_eq_true rfl)) dL_law_235 ⟨Nat.le_of_ble_eq_true rfl, Nat.le_of_ble_eq_true rfl⟩) hS (fun q _ h => hFc q h) hFc (fun r_2 u t H locs ht hvm hw hB hz1 hk1 hS => ?_)
  obtain ⟨hP, hD⟩ := gp_join (wr := []) (w1 := []) hP hD [0, 15] [] rfl rfl (by decide) (by decide) hk1 hFc ht hB
  have hP : va_P D vwCl [] H := hP
  have hD : va_D A [] := hD
  obtain rfl : r_2 = 20 := hw
  refine lv_icmp_eq (tgt := 1364) hx hb dL_law_238 (by decide) (fun c_3 => ?_) (fun c_3 => absurd (by decide) c_3)
  refine lv_iinc (v := 7) (lv' := [(3, .int 7), (2, .ref (ma 200)), (1, .ref (xa 0)), (0, .ref b)]) hx hb dL_law_1364 hl (k := 0) rfl (by decide) (by decide) rfl (fun ls hl => ?_)
  refine lv_goto (tgt := 18) hx hb dL_law_1367 (by decide) ?_
  refine lv_iload_n hx hb dL_law_18 rfl (lv_at hl 0 rfl) ?_
  refine lv_aload_n hx hb dL_law_19 rfl (lv_at hl 3 rfl) ?_
  refine va_slen hx hb hX hbl hbA hS dL_law_20 ?_
  refine gp_ni 7 rfl ?_
  refine lv_bipush (v := 7) hx hb dL_law_21 (by decide) ?_
  refine lv_isub hx hb dL_law_23 ?_
  refine gp_ni 0 (by decide) ?_
  refine lv_icmp_gt (tgt := 1370) hx hb dL_law_24 (by decide) (fun c_4 => ?_) (fun c_4 => absurd (by decide) c_4)
  refine lv_iconst (v := 1) hx hb dL_law_1370 (by decide) ?_
  refine va_forget (fun q hq => hSA _ (hS.2.2 q hq)) ?_
  refine W.widen (k := 600000) (n := 7302250) (by decide) (by decide) ?_
  exact lw_ret hx hb hr hlocks dL_law_1371

set_option maxHeartbeats 4000000 in
set_option maxRecDepth 100000 in
theorem law_1 {p : Program} {e : Env} {s : State} {m : MethodId} {below : List Frame} {meth : Method} {c : Code} (l : Launch) {b : Nat} {xs : Nat → Int32} (C0 : lw_At p s m meth c b 7 xs) {D : va_G} {cy : Nat → ClassId} (hK : va_K D vwCl (gp_T cy) s) (hN : gp_N s) (xa ma : Nat → Nat) (fO : Nat → Option Nat) (hO : fO 0 = some (xa 6)) {A : Nat → Prop} (hAe : A = (fun q : Nat => s.heap.size ≤ q)) {H : Heap} {locs : List Loc} {ls : Array Slot} (hP : va_P D vwCl (lw_W cy xa ma fO) H) (hD : va_D A (lw_W cy xa ma fO)) (hS : va_S A s.heap H locs) (hl : lv_has ls 4 [(3, .int 0), (2, .ref (ma 200)), (1, .ref (xa 0)), (0, .ref b)]) : W p l e room_1 s m #[Value.ref b] below meth c H locs 153 14835 (lw_Z below #[Value.ref b] s) (F0 m 243 ls []) := by
  obtain ⟨hx, hb, hr, hml, hown, hts, hX, hbl, hlocks, hgv⟩ := id C0
  have hown : s.vm.findClass RL = some m.cls := hown
  have hA : ∀ q : Nat, s.heap.size ≤ q → A q := fun q h => by rw [hAe]; exact h
  have hbA : ¬ A b := by rw [hAe]; exact Nat.not_le.mpr hbl
  have hSA : ∀ q : Nat, A q → s.heap.size ≤ q := fun q h => by rw [hAe] at h; exact h
  refine lv_aload_n hx hb dL_law_243 rfl (lv_at hl 2 rfl) ?_
  refine lv_aload_n hx hb dL_law_244 rfl (lv_at hl 3 rfl) ?_
  refine lv_iload_n hx hb dL_law_245 rfl (lv_at hl 0 rfl) ?_
  refine lv_iconst (v := 1) hx hb dL_law_246 (by decide) ?_
  refine lv_iadd hx hb dL_law_247 ?_
  refine gp_ni 1 (by decide) ?_
  refine va_sld hx hb hX hbl hbA hS (by unfold vp_in; decide) dL_law_248 ?_
  refine gp_ni (xs 1) rfl ?_
  have hPc := hP.sub (ws' := [((xa 0), .inr (11, [.ref (xa 1), .ref (xa 3), .ref (xa 7), .ref (xa 11), .ref (xa 20), .ref (xa 24), .ref (xa 25), .ref (xa 29)])), ((xa 1), .inr (9, [.int 0, .int 0, .int (-1), .int 0, .int 0, .int 0, .ref (xa 2)]))]) [0, 1] rfl
  have hDc := hD.sub (ws' := [((xa 0), .inr (11, [.ref (xa 1), .ref (xa 3), .ref (xa 7), .ref (xa 11), .ref (xa 20), .ref (xa 24), .ref (xa 25), .ref (xa 29)])), ((xa 1), .inr (9, [.int 0, .int 0, .int (-1), .int 0, .int 0, .int 0, .ref (xa 2)]))]) [0, 1] (by decide) rfl
  have hFc := va_free (wc := [((xa 0), .inr (11, [.ref (xa 1), .ref (xa 3), .ref (xa 7), .ref (xa 11), .ref (xa 20), .ref (xa 24), .ref (xa 25), .ref (xa 29)])), ((xa 1), .inr (9, [.int 0, .int 0, .int (-1), .int 0, .int 0, .int 0, .ref (xa 2)]))]) hD hS hA [0, 1] rfl
  refine va_calli (va_runV (As := [.int (xs 1)]) (rest := []) ⟨hx, hb, hml, hown, hts⟩ (kX11_end l D cy H.size xa (xs 1)) (cwV 1 hts gc_kX11_end rfl rfl rfl (by decide +kernel) ⟨Nat.le_of_ble_eq_true rfl, Nat.le_of_ble_eq_true rfl⟩) (gp_preV (RX11, TX11, 8) 11 0 hPc hDc hK hN rfl rfl) rfl rfl hl.1 rfl (lv_room (Nat.le_of_ble_eq_true rfl)) dL_law_249 ⟨Nat.le_of_ble_eq_true rfl, Nat.le_of_ble_eq_true rfl⟩) hS (fun q _ h => hFc q h) hFc (fun r_1 u t H locs ht hvm hw hB hz1 hk1 hS => ?_)
  obtain ⟨hP, hD⟩ := gp_join (wr := [((ma 200), mo_0 ma), ((ma 11), .inl (cy 3, 8, .inl (fun _ => 0))), ((ma 12), .inl (cy 1, 8, .inl (fun _ => 0))), ((ma 13), .inl (cy 1, 8, .inl (fun _ => 0))), ((ma 14), .inl (cy 3, 12, .inl (fun _ => 0))), ((ma 15), .inl (cy 1, 12, .inl (fun _ => 0))), ((ma 16), .inl (cy 1, 12, .inl (fun _ => 0))), ((ma 17), .inl (cy 1, 12, .inl (fun _ => 0))), ((ma 18), .inl (cy 1, 12, .inl (fun _ => 0))), ((ma 19), .inl (cy 3, 12, .inl (fun _ => 0))), ((ma 20), .inl (cy 3, 8, .inl (fun _ => 0))), ((ma 21), .inl (cy 1, 8, .inl (fun _ => 0))), ((ma 22), .inl (cy 1, 8, .inl (fun _ => 0))), ((ma 23), .inl (cy 1, 8, .inl (fun _ => 0))), ((ma 24), .inl (cy 1, 8, .inl (fun _ => 0))), ((ma 33), .inl (cy 1, 600, .inl (fun _ => 0))), ((ma 68), .inl (cy 1, 8, .inl (fun _ => 0))), ((ma 69), .inl (cy 1, 8, .inl (fun _ => 0))), ((ma 70), .inl (cy 1, 8, .inl (fun _ => 0))), ((ma 73), .inl (cy 1, 241, .inl (fun _ => 0))), ((ma 74), .inl (cy 1, 241, .inl (fun _ => 0))), ((ma 75), .inl (cy 1, 241, .inl (upd (fun _ => 0) 0 1))), ((ma 93), .inl (cy 1, 1000, .inl (fun _ => 0))), ((ma 94), .inl (cy 3, 1001, .inl (fun _ => 0))), ((ma 95), .inl (cy 1, 1000, .inl (fun _ => 0))), ((ma 97), .inl (cy 1, 101, .inl (fun _ => 0))), ((ma 98), .inl (cy 1, 101, .inl (fun _ => 0))), ((ma 99), .inl (cy 1, 101, .inl (fun _ => 0))), ((ma 100), .inl (cy 1, 101, .inl (fun _ => 0)))]) (w1 := []) hP hD [0, 1] [67, 68, 69, 70, 71, 72, 73, 74, 75, 76, 77, 78, 79, 80, 81, 82, 83, 84, 85, 86, 87, 88, 89, 90, 91, 92, 93, 94, 95] rfl rfl (by decide) (by decide) hk1 hFc ht hB
  have hP : va_P D vwCl [((ma 200), mo_0 ma), ((ma 11), .inl (cy 3, 8, .inl (fun _ => 0))), ((ma 12), .inl (cy 1, 8, .inl (fun _ => 0))), ((ma 13), .inl (cy 1, 8, .inl (fun _ => 0))), ((ma 14), .inl (cy 3, 12, .inl (fun _ => 0))), ((ma 15), .inl (cy 1, 12, .inl (fun _ => 0))), ((ma 16), .inl (cy 1, 12, .inl (fun _ => 0))), ((ma 17), .inl (cy 1, 12, .inl (fun _ => 0))), ((ma 18), .inl (cy 1, 12, .inl (fun _ => 0))), ((ma 19), .inl (cy 3, 12, .inl (fun _ => 0))), ((ma 20), .inl (cy 3, 8, .inl (fun _ => 0))), ((ma 21), .inl (cy 1, 8, .inl (fun _ => 0))), ((ma 22), .inl (cy 1, 8, .inl (fun _ => 0))), ((ma 23), .inl (cy 1, 8, .inl (fun _ => 0))), ((ma 24), .inl (cy 1, 8, .inl (fun _ => 0))), ((ma 33), .inl (cy 1, 600, .inl (fun _ => 0))), ((ma 68), .inl (cy 1, 8, .inl (fun _ => 0))), ((ma 69), .inl (cy 1, 8, .inl (fun _ => 0))), ((ma 70), .inl (cy 1, 8, .inl (fun _ => 0))), ((ma 73), .inl (cy 1, 241, .inl (fun _ => 0))), ((ma 74), .inl (cy 1, 241, .inl (fun _ => 0))), ((ma 75), .inl (cy 1, 241, .inl (upd (fun _ => 0) 0 1))), ((ma 93), .inl (cy 1, 1000, .inl (fun _ => 0))), ((ma 94), .inl (cy 3, 1001, .inl (fun _ => 0))), ((ma 95), .inl (cy 1, 1000, .inl (fun _ => 0))), ((ma 97), .inl (cy 1, 101, .inl (fun _ => 0))), ((ma 98), .inl (cy 1, 101, .inl (fun _ => 0))), ((ma 99), .inl (cy 1, 101, .inl (fun _ => 0))), ((ma 100), .inl (cy 1, 101, .inl (fun _ => 0)))] H := hP
  have hD : va_D A [((ma 200), mo_0 ma), ((ma 11), .inl (cy 3, 8, .inl (fun _ => 0))), ((ma 12), .inl (cy 1, 8, .inl (fun _ => 0))), ((ma 13), .inl (cy 1, 8, .inl (fun _ => 0))), ((ma 14), .inl (cy 3, 12, .inl (fun _ => 0))), ((ma 15), .inl (cy 1, 12, .inl (fun _ => 0))), ((ma 16), .inl (cy 1, 12, .inl (fun _ => 0))), ((ma 17), .inl (cy 1, 12, .inl (fun _ => 0))), ((ma 18), .inl (cy 1, 12, .inl (fun _ => 0))), ((ma 19), .inl (cy 3, 12, .inl (fun _ => 0))), ((ma 20), .inl (cy 3, 8, .inl (fun _ => 0))), ((ma 21), .inl (cy 1, 8, .inl (fun _ => 0))), ((ma 22), .inl (cy 1, 8, .inl (fun _ => 0))), ((ma 23), .inl (cy 1, 8, .inl (fun _ => 0))), ((ma 24), .inl (cy 1, 8, .inl (fun _ => 0))), ((ma 33), .inl (cy 1, 600, .inl (fun _ => 0))), ((ma 68), .inl (cy 1, 8, .inl (fun _ => 0))), ((ma 69), .inl (cy 1, 8, .inl (fun _ => 0))), ((ma 70), .inl (cy 1, 8, .inl (fun _ => 0))), ((ma 73), .inl (cy 1, 241, .inl (fun _ => 0))), ((ma 74), .inl (cy 1, 241, .inl (fun _ => 0))), ((ma 75), .inl (cy 1, 241, .inl (upd (fun _ => 0) 0 1))), ((ma 93), .inl (cy 1, 1000, .inl (fun _ => 0))), ((ma 94), .inl (cy 3, 1001, .inl (fun _ => 0))), ((ma 95), .inl (cy 1, 1000, .inl (fun _ => 0))), ((ma 97), .inl (cy 1, 101, .inl (fun _ => 0))), ((ma 98), .inl (cy 1, 101, .inl (fun _ => 0))), ((ma 99), .inl (cy 1, 101, .inl (fun _ => 0))), ((ma 100), .inl (cy 1, 101, .inl (fun _ => 0)))] := hD
  rcases hw with ⟨rfl, p_2⟩ | ⟨rfl, p_2⟩
  · refine lv_aload_n hx hb dL_law_252 rfl (lv_at hl 1 rfl) ?_
    refine lv_aload_n hx hb dL_law_253 rfl (lv_at hl 3 rfl) ?_
    refine lv_iload_n hx hb dL_law_254 rfl (lv_at hl 0 rfl) ?_
    refine lv_iconst (v := 1) hx hb dL_law_255 (by decide) ?_
    refine lv_iadd hx hb dL_law_256 ?_
    refine gp_ni 1 (by decide) ?_
    refine va_sld hx hb hX hbl hbA hS (by unfold vp_in; decide) dL_law_257 ?_
    refine gp_ni (xs 1) rfl ?_
    have hPc := hP.sub (ws' := [((ma 200), mo_0 ma)]) [0] rfl
    have hDc := hD.sub (ws' := [((ma 200), mo_0 ma)]) [0] (by decide) rfl
    have hFc := va_free (wc := [((ma 200), mo_0 ma)]) hD hS hA [0] rfl
    refine va_calli (va_runV (As := [.int (xs 1)]) (rest := [.int 1]) ⟨hx, hb, hml, hown, hts⟩ (kX12_end l D cy H.size ma (xs 1)) (cwV 1 hts gc_kX12_end rfl rfl rfl (by decide +kernel) ⟨Nat.le_of_ble_eq_true rfl, Nat.le_of_ble_eq_true rfl⟩) (gp_preV (RX12, TX12, 104) 12 0 hPc hDc hK hN rfl rfl) rfl rfl hl.1 rfl (lv_room (Nat.le_of_ble_eq_true rfl)) dL_law_258 ⟨Nat.le_of_ble_eq_true rfl, Nat.le_of_ble_eq_true rfl⟩) hS (fun q _ h => hFc q h) hFc (fun r_3 u t H locs ht hvm hw hB hz1 hk1 hS => ?_)
    obtain ⟨hP, hD⟩ := gp_join (wr := []) (w1 := []) hP hD [0] [] rfl rfl (by decide) (by decide) hk1 hFc ht hB
    have hP : va_P D vwCl [] H := hP
    have hD : va_D A [] := hD
    rcases hw with ⟨rfl, p_4⟩ | ⟨rfl, p_4⟩
    · refine lv_icmp_eq (tgt := 1364) hx hb dL_law_261 (by decide) (fun c_5 => ?_) (fun c_5 => absurd (by decide) c_5)
      refine lv_iinc (v := 7) (lv' := [(3, .int 7), (2, .ref (ma 200)), (1, .ref (xa 0)), (0, .ref b)]) hx hb dL_law_1364 hl (k := 0) rfl (by decide) (by decide) rfl (fun ls hl => ?_)
      refine lv_goto (tgt := 18) hx hb dL_law_1367 (by decide) ?_
      refine lv_iload_n hx hb dL_law_18 rfl (lv_at hl 0 rfl) ?_
      refine lv_aload_n hx hb dL_law_19 rfl (lv_at hl 3 rfl) ?_
      refine va_slen hx hb hX hbl hbA hS dL_law_20 ?_
      refine gp_ni 7 rfl ?_
      refine lv_bipush (v := 7) hx hb dL_law_21 (by decide) ?_
      refine lv_isub hx hb dL_law_23 ?_
      refine gp_ni 0 (by decide) ?_
      refine lv_icmp_gt (tgt := 1370) hx hb dL_law_24 (by decide) (fun c_6 => ?_) (fun c_6 => absurd (by decide) c_6)
      refine lv_iconst (v := 1) hx hb dL_law_1370 (by decide) ?_
      refine va_forget (fun q hq => hSA _ (hS.2.2 q hq)) ?_
      refine W.widen (k := 600000) (n := 7302250) (by decide) (by decide) ?_
      exact lw_ret hx hb hr hlocks dL_law_1371
    · exact absurd p_2 p_4
  · refine lv_aload_n hx hb dL_law_252 rfl (lv_at hl 1 rfl) ?_
    refine lv_aload_n hx hb dL_law_253 rfl (lv_at hl 3 rfl) ?_
    refine lv_iload_n hx hb dL_law_254 rfl (lv_at hl 0 rfl) ?_
    refine lv_iconst (v := 1) hx hb dL_law_255 (by decide) ?_
    refine lv_iadd hx hb dL_law_256 ?_
    refine gp_ni 1 (by decide) ?_
    refine va_sld hx hb hX hbl hbA hS (by unfold vp_in; decide) dL_law_257 ?_
    refine gp_ni (xs 1) rfl ?_
    have hPc := hP.sub (ws' := [((ma 200), mo_0 ma)]) [0] rfl
    have hDc := hD.sub (ws' := [((ma 200), mo_0 ma)]) [0] (by decide) rfl
    have hFc := va_free (wc := [((ma 200), mo_0 ma)]) hD hS hA [0] rfl
    refine va_calli (va_runV (As := [.int (xs 1)]) (rest := [.int 0]) ⟨hx, hb, hml, hown, hts⟩ (kX12_end l D cy H.size ma (xs 1)) (cwV 1 hts gc_kX12_end rfl rfl rfl (by decide +kernel) ⟨Nat.le_of_ble_eq_true rfl, Nat.le_of_ble_eq_true rfl⟩) (gp_preV (RX12, TX12, 104) 12 0 hPc hDc hK hN rfl rfl) rfl rfl hl.1 rfl (lv_room (Nat.le_of_ble_eq_true rfl)) dL_law_258 ⟨Nat.le_of_ble_eq_true rfl, Nat.le_of_ble_eq_true rfl⟩) hS (fun q _ h => hFc q h) hFc (fun r_7 u t H locs ht hvm hw hB hz1 hk1 hS => ?_)
    obtain ⟨hP, hD⟩ := gp_join (wr := []) (w1 := []) hP hD [0] [] rfl rfl (by decide) (by decide) hk1 hFc ht hB
    have hP : va_P D vwCl [] H := hP
    have hD : va_D A [] := hD
    rcases hw with ⟨rfl, p_8⟩ | ⟨rfl, p_8⟩
    · exact absurd p_8 p_2
    · refine lv_icmp_eq (tgt := 1364) hx hb dL_law_261 (by decide) (fun c_9 => ?_) (fun c_9 => absurd (by decide) c_9)
      refine lv_iinc (v := 7) (lv' := [(3, .int 7), (2, .ref (ma 200)), (1, .ref (xa 0)), (0, .ref b)]) hx hb dL_law_1364 hl (k := 0) rfl (by decide) (by decide) rfl (fun ls hl => ?_)
      refine lv_goto (tgt := 18) hx hb dL_law_1367 (by decide) ?_
      refine lv_iload_n hx hb dL_law_18 rfl (lv_at hl 0 rfl) ?_
      refine lv_aload_n hx hb dL_law_19 rfl (lv_at hl 3 rfl) ?_
      refine va_slen hx hb hX hbl hbA hS dL_law_20 ?_
      refine gp_ni 7 rfl ?_
      refine lv_bipush (v := 7) hx hb dL_law_21 (by decide) ?_
      refine lv_isub hx hb dL_law_23 ?_
      refine gp_ni 0 (by decide) ?_
      refine lv_icmp_gt (tgt := 1370) hx hb dL_law_24 (by decide) (fun c_10 => ?_) (fun c_10 => absurd (by decide) c_10)
      refine lv_iconst (v := 1) hx hb dL_law_1370 (by decide) ?_
      refine va_forget (fun q hq => hSA _ (hS.2.2 q hq)) ?_
      refine W.widen (k := 600000) (n := 7302250) (by decide) (by decide) ?_
      exact lw_ret hx hb hr hlocks dL_law_1371

set_option maxHeartbeats 4000000 in
set_option maxRecDepth 100000 in
theorem law_2 {p : Program} {e : Env} {s : State} {m : MethodId} {below : List Frame} {meth : Method} {c : Code} (l : Launch) {b : Nat} {xs : Nat → Int32} (C0 : lw_At p s m meth c b 7 xs) {D : va_G} {cy : Nat → ClassId} (hK : va_K D vwCl (gp_T cy) s) (hN : gp_N s) (xa ma : Nat → Nat) (fO : Nat → Option Nat) (hO : fO 0 = some (xa 6)) {A : Nat → Prop} (hAe : A = (fun q : Nat => s.heap.size ≤ q)) {H : Heap} {locs : List Loc} {ls : Array Slot} (hP : va_P D vwCl (lw_W cy xa ma fO) H) (hD : va_D A (lw_W cy xa ma fO)) (hS : va_S A s.heap H locs) (hl : lv_has ls 4 [(3, .int 0), (2, .ref (ma 200)), (1, .ref (xa 0)), (0, .ref b)]) : W p l e room_1 s m #[Value.ref b] below meth c H locs 153 14835 (lw_Z below #[Value.ref b] s) (F0 m 266 ls []) := by
  obtain ⟨hx, hb, hr, hml, hown, hts, hX, hbl, hlocks, hgv⟩ := id C0
  have hown : s.vm.findClass RL = some m.cls := hown
  have hA : ∀ q : Nat, s.heap.size ≤ q → A q := fun q h => by rw [hAe]; exact h
  have hbA : ¬ A b := by rw [hAe]; exact Nat.not_le.mpr hbl
  have hSA : ∀ q : Nat, A q → s.heap.size ≤ q := fun q h => by rw [hAe] at h; exact h
  refine lv_aload_n hx hb dL_law_266 rfl (lv_at hl 2 rfl) ?_
  refine lv_aload_n hx hb dL_law_267 rfl (lv_at hl 3 rfl) ?_
  refine lv_iload_n hx hb dL_law_268 rfl (lv_at hl 0 rfl) ?_
  refine lv_iconst (v := 1) hx hb dL_law_269 (by decide) ?_
  refine lv_iadd hx hb dL_law_270 ?_
  refine gp_ni 1 (by decide) ?_
  refine va_sld hx hb hX hbl hbA hS (by unfold vp_in; decide) dL_law_271 ?_
  refine gp_ni (xs 1) rfl ?_
  refine lv_aload_n hx hb dL_law_272 rfl (lv_at hl 3 rfl) ?_
  refine lv_iload_n hx hb dL_law_273 rfl (lv_at hl 0 rfl) ?_
  refine lv_iconst (v := 2) hx hb dL_law_274 (by decide) ?_
  refine lv_iadd hx hb dL_law_275 ?_
  refine gp_ni 2 (by decide) ?_
  refine va_sld hx hb hX hbl hbA hS (by unfold vp_in; decide) dL_law_276 ?_
  refine gp_ni (xs 2) rfl ?_
  refine lv_aload_n hx hb dL_law_277 rfl (lv_at hl 3 rfl) ?_
  refine lv_iload_n hx hb dL_law_278 rfl (lv_at hl 0 rfl) ?_
  refine lv_iconst (v := 3) hx hb dL_law_279 (by decide) ?_
  refine lv_iadd hx hb dL_law_280 ?_
  refine gp_ni 3 (by decide) ?_
  refine va_sld hx hb hX hbl hbA hS (by unfold vp_in; decide) dL_law_281 ?_
  refine gp_ni (xs 3) rfl ?_
  refine lv_aload_n hx hb dL_law_282 rfl (lv_at hl 3 rfl) ?_
  refine lv_iload_n hx hb dL_law_283 rfl (lv_at hl 0 rfl) ?_
  refine lv_iconst (v := 4) hx hb dL_law_284 (by decide) ?_
  refine lv_iadd hx hb dL_law_285 ?_
  refine gp_ni 4 (by decide) ?_
  refine va_sld hx hb hX hbl hbA hS (by unfold vp_in; decide) dL_law_286 ?_
  refine gp_ni (xs 4) rfl ?_
  have hPc := hP.sub (ws' := [((xa 0), .inr (11, [.ref (xa 1), .ref (xa 3), .ref (xa 7), .ref (xa 11), .ref (xa 20), .ref (xa 24), .ref (xa 25), .ref (xa 29)])), ((xa 11), .inr (7, [.int (-50), .int 0, .int 50, .int 80, .int (-60), .int (-40), .int 60, .int (-40), .int 0, .int 4, .int 0, .ref (xa 12), .ref (xa 13), .ref (xa 14), .ref (xa 15), .ref (xa 16), .ref (xa 17), .ref (xa 18), .ref (xa 19)]))]) [0, 11] rfl
  have hDc := hD.sub (ws' := [((xa 0), .inr (11, [.ref (xa 1), .ref (xa 3), .ref (xa 7), .ref (xa 11), .ref (xa 20), .ref (xa 24), .ref (xa 25), .ref (xa 29)])), ((xa 11), .inr (7, [.int (-50), .int 0, .int 50, .int 80, .int (-60), .int (-40), .int 60, .int (-40), .int 0, .int 4, .int 0, .ref (xa 12), .ref (xa 13), .ref (xa 14), .ref (xa 15), .ref (xa 16), .ref (xa 17), .ref (xa 18), .ref (xa 19)]))]) [0, 11] (by decide) rfl
  have hFc := va_free (wc := [((xa 0), .inr (11, [.ref (xa 1), .ref (xa 3), .ref (xa 7), .ref (xa 11), .ref (xa 20), .ref (xa 24), .ref (xa 25), .ref (xa 29)])), ((xa 11), .inr (7, [.int (-50), .int 0, .int 50, .int 80, .int (-60), .int (-40), .int 60, .int (-40), .int 0, .int 4, .int 0, .ref (xa 12), .ref (xa 13), .ref (xa 14), .ref (xa 15), .ref (xa 16), .ref (xa 17), .ref (xa 18), .ref (xa 19)]))]) hD hS hA [0, 11] rfl
  refine va_calli (va_runV (As := [.int (xs 1), .int (xs 2), .int (xs 3), .int (xs 4)]) (rest := []) ⟨hx, hb, hml, hown, hts⟩ (kX11_pane l D cy H.size xa (xs 1) (xs 2) (xs 3) (xs 4)) (cwV 4 hts gc_kX11_pane rfl rfl rfl (by decide +kernel) ⟨Nat.le_of_ble_eq_true rfl, Nat.le_of_ble_eq_true rfl⟩) (gp_preV (RX11, TX11, 8) 11 0 hPc hDc hK hN rfl rfl) rfl rfl hl.1 rfl (lv_room (Nat.le_of_ble_eq_true rfl)) dL_law_287 ⟨Nat.le_of_ble_eq_true rfl, Nat.le_of_ble_eq_true rfl⟩) hS (fun q _ h => hFc q h) hFc (fun r_1 u t H locs ht hvm hw hB hz1 hk1 hS => ?_)
  obtain ⟨hP, hD⟩ := gp_join (wr := [((ma 200), mo_0 ma), ((ma 11), .inl (cy 3, 8, .inl (fun _ => 0))), ((ma 12), .inl (cy 1, 8, .inl (fun _ => 0))), ((ma 13), .inl (cy 1, 8, .inl (fun _ => 0))), ((ma 14), .inl (cy 3, 12, .inl (fun _ => 0))), ((ma 15), .inl (cy 1, 12, .inl (fun _ => 0))), ((ma 16), .inl (cy 1, 12, .inl (fun _ => 0))), ((ma 17), .inl (cy 1, 12, .inl (fun _ => 0))), ((ma 18), .inl (cy 1, 12, .inl (fun _ => 0))), ((ma 19), .inl (cy 3, 12, .inl (fun _ => 0))), ((ma 20), .inl (cy 3, 8, .inl (fun _ => 0))), ((ma 21), .inl (cy 1, 8, .inl (fun _ => 0))), ((ma 22), .inl (cy 1, 8, .inl (fun _ => 0))), ((ma 23), .inl (cy 1, 8, .inl (fun _ => 0))), ((ma 24), .inl (cy 1, 8, .inl (fun _ => 0))), ((ma 33), .inl (cy 1, 600, .inl (fun _ => 0))), ((ma 68), .inl (cy 1, 8, .inl (fun _ => 0))), ((ma 69), .inl (cy 1, 8, .inl (fun _ => 0))), ((ma 70), .inl (cy 1, 8, .inl (fun _ => 0))), ((ma 73), .inl (cy 1, 241, .inl (fun _ => 0))), ((ma 74), .inl (cy 1, 241, .inl (fun _ => 0))), ((ma 75), .inl (cy 1, 241, .inl (upd (fun _ => 0) 0 1))), ((ma 93), .inl (cy 1, 1000, .inl (fun _ => 0))), ((ma 94), .inl (cy 3, 1001, .inl (fun _ => 0))), ((ma 95), .inl (cy 1, 1000, .inl (fun _ => 0))), ((ma 97), .inl (cy 1, 101, .inl (fun _ => 0))), ((ma 98), .inl (cy 1, 101, .inl (fun _ => 0))), ((ma 99), .inl (cy 1, 101, .inl (fun _ => 0))), ((ma 100), .inl (cy 1, 101, .inl (fun _ => 0)))]) (w1 := []) hP hD [0, 11] [67, 68, 69, 70, 71, 72, 73, 74, 75, 76, 77, 78, 79, 80, 81, 82, 83, 84, 85, 86, 87, 88, 89, 90, 91, 92, 93, 94, 95] rfl rfl (by decide) (by decide) hk1 hFc ht hB
  have hP : va_P D vwCl [((ma 200), mo_0 ma), ((ma 11), .inl (cy 3, 8, .inl (fun _ => 0))), ((ma 12), .inl (cy 1, 8, .inl (fun _ => 0))), ((ma 13), .inl (cy 1, 8, .inl (fun _ => 0))), ((ma 14), .inl (cy 3, 12, .inl (fun _ => 0))), ((ma 15), .inl (cy 1, 12, .inl (fun _ => 0))), ((ma 16), .inl (cy 1, 12, .inl (fun _ => 0))), ((ma 17), .inl (cy 1, 12, .inl (fun _ => 0))), ((ma 18), .inl (cy 1, 12, .inl (fun _ => 0))), ((ma 19), .inl (cy 3, 12, .inl (fun _ => 0))), ((ma 20), .inl (cy 3, 8, .inl (fun _ => 0))), ((ma 21), .inl (cy 1, 8, .inl (fun _ => 0))), ((ma 22), .inl (cy 1, 8, .inl (fun _ => 0))), ((ma 23), .inl (cy 1, 8, .inl (fun _ => 0))), ((ma 24), .inl (cy 1, 8, .inl (fun _ => 0))), ((ma 33), .inl (cy 1, 600, .inl (fun _ => 0))), ((ma 68), .inl (cy 1, 8, .inl (fun _ => 0))), ((ma 69), .inl (cy 1, 8, .inl (fun _ => 0))), ((ma 70), .inl (cy 1, 8, .inl (fun _ => 0))), ((ma 73), .inl (cy 1, 241, .inl (fun _ => 0))), ((ma 74), .inl (cy 1, 241, .inl (fun _ => 0))), ((ma 75), .inl (cy 1, 241, .inl (upd (fun _ => 0) 0 1))), ((ma 93), .inl (cy 1, 1000, .inl (fun _ => 0))), ((ma 94), .inl (cy 3, 1001, .inl (fun _ => 0))), ((ma 95), .inl (cy 1, 1000, .inl (fun _ => 0))), ((ma 97), .inl (cy 1, 101, .inl (fun _ => 0))), ((ma 98), .inl (cy 1, 101, .inl (fun _ => 0))), ((ma 99), .inl (cy 1, 101, .inl (fun _ => 0))), ((ma 100), .inl (cy 1, 101, .inl (fun _ => 0)))] H := hP
  have hD : va_D A [((ma 200), mo_0 ma), ((ma 11), .inl (cy 3, 8, .inl (fun _ => 0))), ((ma 12), .inl (cy 1, 8, .inl (fun _ => 0))), ((ma 13), .inl (cy 1, 8, .inl (fun _ => 0))), ((ma 14), .inl (cy 3, 12, .inl (fun _ => 0))), ((ma 15), .inl (cy 1, 12, .inl (fun _ => 0))), ((ma 16), .inl (cy 1, 12, .inl (fun _ => 0))), ((ma 17), .inl (cy 1, 12, .inl (fun _ => 0))), ((ma 18), .inl (cy 1, 12, .inl (fun _ => 0))), ((ma 19), .inl (cy 3, 12, .inl (fun _ => 0))), ((ma 20), .inl (cy 3, 8, .inl (fun _ => 0))), ((ma 21), .inl (cy 1, 8, .inl (fun _ => 0))), ((ma 22), .inl (cy 1, 8, .inl (fun _ => 0))), ((ma 23), .inl (cy 1, 8, .inl (fun _ => 0))), ((ma 24), .inl (cy 1, 8, .inl (fun _ => 0))), ((ma 33), .inl (cy 1, 600, .inl (fun _ => 0))), ((ma 68), .inl (cy 1, 8, .inl (fun _ => 0))), ((ma 69), .inl (cy 1, 8, .inl (fun _ => 0))), ((ma 70), .inl (cy 1, 8, .inl (fun _ => 0))), ((ma 73), .inl (cy 1, 241, .inl (fun _ => 0))), ((ma 74), .inl (cy 1, 241, .inl (fun _ => 0))), ((ma 75), .inl (cy 1, 241, .inl (upd (fun _ => 0) 0 1))), ((ma 93), .inl (cy 1, 1000, .inl (fun _ => 0))), ((ma 94), .inl (cy 3, 1001, .inl (fun _ => 0))), ((ma 95), .inl (cy 1, 1000, .inl (fun _ => 0))), ((ma 97), .inl (cy 1, 101, .inl (fun _ => 0))), ((ma 98), .inl (cy 1, 101, .inl (fun _ => 0))), ((ma 99), .inl (cy 1, 101, .inl (fun _ => 0))), ((ma 100), .inl (cy 1, 101, .inl (fun _ => 0)))] := hD
  rcases hw with ⟨rfl, p_2⟩ | ⟨rfl, p_2⟩
  · refine lv_aload_n hx hb dL_law_290 rfl (lv_at hl 1 rfl) ?_
    refine lv_aload_n hx hb dL_law_291 rfl (lv_at hl 3 rfl) ?_
    refine lv_iload_n hx hb dL_law_292 rfl (lv_at hl 0 rfl) ?_
    refine lv_iconst (v := 1) hx hb dL_law_293 (by decide) ?_
    refine lv_iadd hx hb dL_law_294 ?_
    refine gp_ni 1 (by decide) ?_
    refine va_sld hx hb hX hbl hbA hS (by unfold vp_in; decide) dL_law_295 ?_
    refine gp_ni (xs 1) rfl ?_
    refine lv_aload_n hx hb dL_law_296 rfl (lv_at hl 3 rfl) ?_
    refine lv_iload_n hx hb dL_law_297 rfl (lv_at hl 0 rfl) ?_
    refine lv_iconst (v := 2) hx hb dL_law_298 (by decide) ?_
    refine lv_iadd hx hb dL_law_299 ?_
    refine gp_ni 2 (by decide) ?_
    refine va_sld hx hb hX hbl hbA hS (by unfold vp_in; decide) dL_law_300 ?_
    refine gp_ni (xs 2) rfl ?_
    refine lv_aload_n hx hb dL_law_301 rfl (lv_at hl 3 rfl) ?_
    refine lv_iload_n hx hb dL_law_302 rfl (lv_at hl 0 rfl) ?_
    refine lv_iconst (v := 3) hx hb dL_law_303 (by decide) ?_
    refine lv_iadd hx hb dL_law_304 ?_
    refine gp_ni 3 (by decide) ?_
    refine va_sld hx hb hX hbl hbA hS (by unfold vp_in; decide) dL_law_305 ?_
    refine gp_ni (xs 3) rfl ?_
    refine lv_aload_n hx hb dL_law_306 rfl (lv_at hl 3 rfl) ?_
    refine lv_iload_n hx hb dL_law_307 rfl (lv_at hl 0 rfl) ?_
    refine lv_iconst (v := 4) hx hb dL_law_308 (by decide) ?_
    refine lv_iadd hx hb dL_law_309 ?_
    refine gp_ni 4 (by decide) ?_
    refine va_sld hx hb hX hbl hbA hS (by unfold vp_in; decide) dL_law_310 ?_
    refine gp_ni (xs 4) rfl ?_
    have hPc := hP.sub (ws' := [((ma 200), mo_0 ma)]) [0] rfl
    have hDc := hD.sub (ws' := [((ma 200), mo_0 ma)]) [0] (by decide) rfl
    have hFc := va_free (wc := [((ma 200), mo_0 ma)]) hD hS hA [0] rfl
    refine va_calli (va_runV (As := [.int (xs 1), .int (xs 2), .int (xs 3), .int (xs 4)]) (rest := [.int 1]) ⟨hx, hb, hml, hown, hts⟩ (kX12_pane l D cy H.size ma (xs 1) (xs 2) (xs 3) (xs 4)) (cwV 4 hts gc_kX12_pane rfl rfl rfl (by decide +kernel) ⟨Nat.le_of_ble_eq_true rfl, Nat.le_of_ble_eq_true rfl⟩) (gp_preV (RX12, TX12, 104) 12 0 hPc hDc hK hN rfl rfl) rfl rfl hl.1 rfl (lv_room (Nat.le_of_ble_eq_true rfl)) dL_law_311 ⟨Nat.le_of_ble_eq_true rfl, Nat.le_of_ble_eq_true rfl⟩) hS (fun q _ h => hFc q h) hFc (fun r_3 u t H locs ht hvm hw hB hz1 hk1 hS => ?_)
    obtain ⟨hP, hD⟩ := gp_join (wr := []) (w1 := []) hP hD [0] [] rfl rfl (by decide) (by decide) hk1 hFc ht hB
    have hP : va_P D vwCl [] H := hP
    have hD : va_D A [] := hD
    rcases hw with ⟨rfl, p_4⟩ | ⟨rfl, p_4⟩
    · refine lv_icmp_eq (tgt := 1364) hx hb dL_law_314 (by decide) (fun c_5 => ?_) (fun c_5 => absurd (by decide) c_5)
      refine lv_iinc (v := 7) (lv' := [(3, .int 7), (2, .ref (ma 200)), (1, .ref (xa 0)), (0, .ref b)]) hx hb dL_law_1364 hl (k := 0) rfl (by decide) (by decide) rfl (fun ls hl => ?_)
      refine lv_goto (tgt := 18) hx hb dL_law_1367 (by decide) ?_
      refine lv_iload_n hx hb dL_law_18 rfl (lv_at hl 0 rfl) ?_
      refine lv_aload_n hx hb dL_law_19 rfl (lv_at hl 3 rfl) ?_
      refine va_slen hx hb hX hbl hbA hS dL_law_20 ?_
      refine gp_ni 7 rfl ?_
      refine lv_bipush (v := 7) hx hb dL_law_21 (by decide) ?_
      refine lv_isub hx hb dL_law_23 ?_
      refine gp_ni 0 (by decide) ?_
      refine lv_icmp_gt (tgt := 1370) hx hb dL_law_24 (by decide) (fun c_6 => ?_) (fun c_6 => absurd (by decide) c_6)
      refine lv_iconst (v := 1) hx hb dL_law_1370 (by decide) ?_
      refine va_forget (fun q hq => hSA _ (hS.2.2 q hq)) ?_
      refine W.widen (k := 600000) (n := 7302250) (by decide) (by decide) ?_
      exact lw_ret hx hb hr hlocks dL_law_1371
    · exact absurd p_2 p_4
  · refine lv_aload_n hx hb dL_law_290 rfl (lv_at hl 1 rfl) ?_
    refine lv_aload_n hx hb dL_law_291 rfl (lv_at hl 3 rfl) ?_
    refine lv_iload_n hx hb dL_law_292 rfl (lv_at hl 0 rfl) ?_
    refine lv_iconst (v := 1) hx hb dL_law_293 (by decide) ?_
    refine lv_iadd hx hb dL_law_294 ?_
    refine gp_ni 1 (by decide) ?_
    refine va_sld hx hb hX hbl hbA hS (by unfold vp_in; decide) dL_law_295 ?_
    refine gp_ni (xs 1) rfl ?_
    refine lv_aload_n hx hb dL_law_296 rfl (lv_at hl 3 rfl) ?_
    refine lv_iload_n hx hb dL_law_297 rfl (lv_at hl 0 rfl) ?_
    refine lv_iconst (v := 2) hx hb dL_law_298 (by decide) ?_
    refine lv_iadd hx hb dL_law_299 ?_
    refine gp_ni 2 (by decide) ?_
    refine va_sld hx hb hX hbl hbA hS (by unfold vp_in; decide) dL_law_300 ?_
    refine gp_ni (xs 2) rfl ?_
    refine lv_aload_n hx hb dL_law_301 rfl (lv_at hl 3 rfl) ?_
    refine lv_iload_n hx hb dL_law_302 rfl (lv_at hl 0 rfl) ?_
    refine lv_iconst (v := 3) hx hb dL_law_303 (by decide) ?_
    refine lv_iadd hx hb dL_law_304 ?_
    refine gp_ni 3 (by decide) ?_
    refine va_sld hx hb hX hbl hbA hS (by unfold vp_in; decide) dL_law_305 ?_
    refine gp_ni (xs 3) rfl ?_
    refine lv_aload_n hx hb dL_law_306 rfl (lv_at hl 3 rfl) ?_
    refine lv_iload_n hx hb dL_law_307 rfl (lv_at hl 0 rfl) ?_
    refine lv_iconst (v := 4) hx hb dL_law_308 (by decide) ?_
    refine lv_iadd hx hb dL_law_309 ?_
    refine gp_ni 4 (by decide) ?_
    refine va_sld hx hb hX hbl hbA hS (by unfold vp_in; decide) dL_law_310 ?_
    refine gp_ni (xs 4) rfl ?_
    have hPc := hP.sub (ws' := [((ma 200), mo_0 ma)]) [0] rfl
    have hDc := hD.sub (ws' := [((ma 200), mo_0 ma)]) [0] (by decide) rfl
    have hFc := va_free (wc := [((ma 200), mo_0 ma)]) hD hS hA [0] rfl
    refine va_calli (va_runV (As := [.int (xs 1), .int (xs 2), .int (xs 3), .int (xs 4)]) (rest := [.int 0]) ⟨hx, hb, hml, hown, hts⟩ (kX12_pane l D cy H.size ma (xs 1) (xs 2) (xs 3) (xs 4)) (cwV 4 hts gc_kX12_pane rfl rfl rfl (by decide +kernel) ⟨Nat.le_of_ble_eq_true rfl, Nat.le_of_ble_eq_true rfl⟩) (gp_preV (RX12, TX12, 104) 12 0 hPc hDc hK hN rfl rfl) rfl rfl hl.1 rfl (lv_room (Nat.le_of_ble_eq_true rfl)) dL_law_311 ⟨Nat.le_of_ble_eq_true rfl, Nat.le_of_ble_eq_true rfl⟩) hS (fun q _ h => hFc q h) hFc (fun r_7 u t H locs ht hvm hw hB hz1 hk1 hS => ?_)
    obtain ⟨hP, hD⟩ := gp_join (wr := []) (w1 := []) hP hD [0] [] rfl rfl (by decide) (by decide) hk1 hFc ht hB
    have hP : va_P D vwCl [] H := hP
    have hD : va_D A [] := hD
    rcases hw with ⟨rfl, p_8⟩ | ⟨rfl, p_8⟩
    · exact absurd p_8 p_2
    · refine lv_icmp_eq (tgt := 1364) hx hb dL_law_314 (by decide) (fun c_9 => ?_) (fun c_9 => absurd (by decide) c_9)
      refine lv_iinc (v := 7) (lv' := [(3, .int 7), (2, .ref (ma 200)), (1, .ref (xa 0)), (0, .ref b)]) hx hb dL_law_1364 hl (k := 0) rfl (by decide) (by decide) rfl (fun ls hl => ?_)
      refine lv_goto (tgt := 18) hx hb dL_law_1367 (by decide) ?_
      refine lv_iload_n hx hb dL_law_18 rfl (lv_at hl 0 rfl) ?_
      refine lv_aload_n hx hb dL_law_19 rfl (lv_at hl 3 rfl) ?_
      refine va_slen hx hb hX hbl hbA hS dL_law_20 ?_
      refine gp_ni 7 rfl ?_
      refine lv_bipush (v := 7) hx hb dL_law_21 (by decide) ?_
      refine lv_isub hx hb dL_law_23 ?_
      refine gp_ni 0 (by decide) ?_
      refine lv_icmp_gt (tgt := 1370) hx hb dL_law_24 (by decide) (fun c_10 => ?_) (fun c_10 => absurd (by decide) c_10)
      refine lv_iconst (v := 1) hx hb dL_law_1370 (by decide) ?_
      refine va_forget (fun q hq => hSA _ (hS.2.2 q hq)) ?_
      refine W.widen (k := 600000) (n := 7302250) (by decide) (by decide) ?_
      exact lw_ret hx hb hr hlocks dL_law_1371

set_option maxHeartbeats 4000000 in
set_option maxRecDepth 100000 in
theorem law_3 {p : Program} {e : Env} {s : State} {m : MethodId} {below : List Frame} {meth : Method} {c : Code} (l : Launch) {b : Nat} {xs : Nat → Int32} (C0 : lw_At p s m meth c b 7 xs) {D : va_G} {cy : Nat → ClassId} (hK : va_K D vwCl (gp_T cy) s) (hN : gp_N s) (xa ma : Nat → Nat) (fO : Nat → Option Nat) (hO : fO 0 = some (xa 6)) {A : Nat → Prop} (hAe : A = (fun q : Nat => s.heap.size ≤ q)) {H : Heap} {locs : List Loc} {ls : Array Slot} (hP : va_P D vwCl (lw_W cy xa ma fO) H) (hD : va_D A (lw_W cy xa ma fO)) (hS : va_S A s.heap H locs) (hl : lv_has ls 4 [(3, .int 0), (2, .ref (ma 200)), (1, .ref (xa 0)), (0, .ref b)]) : W p l e room_1 s m #[Value.ref b] below meth c H locs 153 14835 (lw_Z below #[Value.ref b] s) (F0 m 319 ls []) := by
  obtain ⟨hx, hb, hr, hml, hown, hts, hX, hbl, hlocks, hgv⟩ := id C0
  have hown : s.vm.findClass RL = some m.cls := hown
  have hA : ∀ q : Nat, s.heap.size ≤ q → A q := fun q h => by rw [hAe]; exact h
  have hbA : ¬ A b := by rw [hAe]; exact Nat.not_le.mpr hbl
  have hSA : ∀ q : Nat, A q → s.heap.size ≤ q := fun q h => by rw [hAe] at h; exact h
  refine lv_aload_n hx hb dL_law_319 rfl (lv_at hl 2 rfl) ?_
  refine lv_aload_n hx hb dL_law_320 rfl (lv_at hl 3 rfl) ?_
  refine lv_iload_n hx hb dL_law_321 rfl (lv_at hl 0 rfl) ?_
  refine lv_iconst (v := 1) hx hb dL_law_322 (by decide) ?_
  refine lv_iadd hx hb dL_law_323 ?_
  refine gp_ni 1 (by decide) ?_
  refine va_sld hx hb hX hbl hbA hS (by unfold vp_in; decide) dL_law_324 ?_
  refine gp_ni (xs 1) rfl ?_
  refine lv_aload_n hx hb dL_law_325 rfl (lv_at hl 3 rfl) ?_
  refine lv_iload_n hx hb dL_law_326 rfl (lv_at hl 0 rfl) ?_
  refine lv_iconst (v := 2) hx hb dL_law_327 (by decide) ?_
  refine lv_iadd hx hb dL_law_328 ?_
  refine gp_ni 2 (by decide) ?_
  refine va_sld hx hb hX hbl hbA hS (by unfold vp_in; decide) dL_law_329 ?_
  refine gp_ni (xs 2) rfl ?_
  refine lv_aload_n hx hb dL_law_330 rfl (lv_at hl 3 rfl) ?_
  refine lv_iload_n hx hb dL_law_331 rfl (lv_at hl 0 rfl) ?_
  refine lv_iconst (v := 3) hx hb dL_law_332 (by decide) ?_
  refine lv_iadd hx hb dL_law_333 ?_
  refine gp_ni 3 (by decide) ?_
  refine va_sld hx hb hX hbl hbA hS (by unfold vp_in; decide) dL_law_334 ?_
  refine gp_ni (xs 3) rfl ?_
  refine lv_aload_n hx hb dL_law_335 rfl (lv_at hl 3 rfl) ?_
  refine lv_iload_n hx hb dL_law_336 rfl (lv_at hl 0 rfl) ?_
  refine lv_iconst (v := 4) hx hb dL_law_337 (by decide) ?_
  refine lv_iadd hx hb dL_law_338 ?_
  refine gp_ni 4 (by decide) ?_
  refine va_sld hx hb hX hbl hbA hS (by unfold vp_in; decide) dL_law_339 ?_
  refine gp_ni (xs 4) rfl ?_
  have hPc := hP.sub (ws' := [((xa 0), .inr (11, [.ref (xa 1), .ref (xa 3), .ref (xa 7), .ref (xa 11), .ref (xa 20), .ref (xa 24), .ref (xa 25), .ref (xa 29)])), ((xa 11), .inr (7, [.int (-50), .int 0, .int 50, .int 80, .int (-60), .int (-40), .int 60, .int (-40), .int 0, .int 4, .int 0, .ref (xa 12), .ref (xa 13), .ref (xa 14), .ref (xa 15), .ref (xa 16), .ref (xa 17), .ref (xa 18), .ref (xa 19)]))]) [0, 11] rfl
  have hDc := hD.sub (ws' := [((xa 0), .inr (11, [.ref (xa 1), .ref (xa 3), .ref (xa 7), .ref (xa 11), .ref (xa 20), .ref (xa 24), .ref (xa 25), .ref (xa 29)])), ((xa 11), .inr (7, [.int (-50), .int 0, .int 50, .int 80, .int (-60), .int (-40), .int 60, .int (-40), .int 0, .int 4, .int 0, .ref (xa 12), .ref (xa 13), .ref (xa 14), .ref (xa 15), .ref (xa 16), .ref (xa 17), .ref (xa 18), .ref (xa 19)]))]) [0, 11] (by decide) rfl
  have hFc := va_free (wc := [((xa 0), .inr (11, [.ref (xa 1), .ref (xa 3), .ref (xa 7), .ref (xa 11), .ref (xa 20), .ref (xa 24), .ref (xa 25), .ref (xa 29)])), ((xa 11), .inr (7, [.int (-50), .int 0, .int 50, .int 80, .int (-60), .int (-40), .int 60, .int (-40), .int 0, .int 4, .int 0, .ref (xa 12), .ref (xa 13), .ref (xa 14), .ref (xa 15), .ref (xa 16), .ref (xa 17), .ref (xa 18), .ref (xa 19)]))]) hD hS hA [0, 11] rfl
  refine va_calli (va_runV (As := [.int (xs 1), .int (xs 2), .int (xs 3), .int (xs 4)]) (rest := []) ⟨hx, hb, hml, hown, hts⟩ (kX11_board l D cy H.size xa (xs 1) (xs 2) (xs 3) (xs 4)) (cwV 4 hts gc_kX11_board rfl rfl rfl (by decide +kernel) ⟨Nat.le_of_ble_eq_true rfl, Nat.le_of_ble_eq_true rfl⟩) (gp_preV (RX11, TX11, 8) 11 0 hPc hDc hK hN rfl rfl) rfl rfl hl.1 rfl (lv_room (Nat.le_of_ble_eq_true rfl)) dL_law_340 ⟨Nat.le_of_ble_eq_true rfl, Nat.le_of_ble_eq_true rfl⟩) hS (fun q _ h => hFc q h) hFc (fun r_1 u t H locs ht hvm hw hB hz1 hk1 hS => ?_)
  obtain ⟨hP, hD⟩ := gp_join (wr := [((ma 200), mo_0 ma), ((ma 11), .inl (cy 3, 8, .inl (fun _ => 0))), ((ma 12), .inl (cy 1, 8, .inl (fun _ => 0))), ((ma 13), .inl (cy 1, 8, .inl (fun _ => 0))), ((ma 14), .inl (cy 3, 12, .inl (fun _ => 0))), ((ma 15), .inl (cy 1, 12, .inl (fun _ => 0))), ((ma 16), .inl (cy 1, 12, .inl (fun _ => 0))), ((ma 17), .inl (cy 1, 12, .inl (fun _ => 0))), ((ma 18), .inl (cy 1, 12, .inl (fun _ => 0))), ((ma 19), .inl (cy 3, 12, .inl (fun _ => 0))), ((ma 20), .inl (cy 3, 8, .inl (fun _ => 0))), ((ma 21), .inl (cy 1, 8, .inl (fun _ => 0))), ((ma 22), .inl (cy 1, 8, .inl (fun _ => 0))), ((ma 23), .inl (cy 1, 8, .inl (fun _ => 0))), ((ma 24), .inl (cy 1, 8, .inl (fun _ => 0))), ((ma 33), .inl (cy 1, 600, .inl (fun _ => 0))), ((ma 68), .inl (cy 1, 8, .inl (fun _ => 0))), ((ma 69), .inl (cy 1, 8, .inl (fun _ => 0))), ((ma 70), .inl (cy 1, 8, .inl (fun _ => 0))), ((ma 73), .inl (cy 1, 241, .inl (fun _ => 0))), ((ma 74), .inl (cy 1, 241, .inl (fun _ => 0))), ((ma 75), .inl (cy 1, 241, .inl (upd (fun _ => 0) 0 1))), ((ma 93), .inl (cy 1, 1000, .inl (fun _ => 0))), ((ma 94), .inl (cy 3, 1001, .inl (fun _ => 0))), ((ma 95), .inl (cy 1, 1000, .inl (fun _ => 0))), ((ma 97), .inl (cy 1, 101, .inl (fun _ => 0))), ((ma 98), .inl (cy 1, 101, .inl (fun _ => 0))), ((ma 99), .inl (cy 1, 101, .inl (fun _ => 0))), ((ma 100), .inl (cy 1, 101, .inl (fun _ => 0)))]) (w1 := []) hP hD [0, 11] [67, 68, 69, 70, 71, 72, 73, 74, 75, 76, 77, 78, 79, 80, 81, 82, 83, 84, 85, 86, 87, 88, 89, 90, 91, 92, 93, 94, 95] rfl rfl (by decide) (by decide) hk1 hFc ht hB
  have hP : va_P D vwCl [((ma 200), mo_0 ma), ((ma 11), .inl (cy 3, 8, .inl (fun _ => 0))), ((ma 12), .inl (cy 1, 8, .inl (fun _ => 0))), ((ma 13), .inl (cy 1, 8, .inl (fun _ => 0))), ((ma 14), .inl (cy 3, 12, .inl (fun _ => 0))), ((ma 15), .inl (cy 1, 12, .inl (fun _ => 0))), ((ma 16), .inl (cy 1, 12, .inl (fun _ => 0))), ((ma 17), .inl (cy 1, 12, .inl (fun _ => 0))), ((ma 18), .inl (cy 1, 12, .inl (fun _ => 0))), ((ma 19), .inl (cy 3, 12, .inl (fun _ => 0))), ((ma 20), .inl (cy 3, 8, .inl (fun _ => 0))), ((ma 21), .inl (cy 1, 8, .inl (fun _ => 0))), ((ma 22), .inl (cy 1, 8, .inl (fun _ => 0))), ((ma 23), .inl (cy 1, 8, .inl (fun _ => 0))), ((ma 24), .inl (cy 1, 8, .inl (fun _ => 0))), ((ma 33), .inl (cy 1, 600, .inl (fun _ => 0))), ((ma 68), .inl (cy 1, 8, .inl (fun _ => 0))), ((ma 69), .inl (cy 1, 8, .inl (fun _ => 0))), ((ma 70), .inl (cy 1, 8, .inl (fun _ => 0))), ((ma 73), .inl (cy 1, 241, .inl (fun _ => 0))), ((ma 74), .inl (cy 1, 241, .inl (fun _ => 0))), ((ma 75), .inl (cy 1, 241, .inl (upd (fun _ => 0) 0 1))), ((ma 93), .inl (cy 1, 1000, .inl (fun _ => 0))), ((ma 94), .inl (cy 3, 1001, .inl (fun _ => 0))), ((ma 95), .inl (cy 1, 1000, .inl (fun _ => 0))), ((ma 97), .inl (cy 1, 101, .inl (fun _ => 0))), ((ma 98), .inl (cy 1, 101, .inl (fun _ => 0))), ((ma 99), .inl (cy 1, 101, .inl (fun _ => 0))), ((ma 100), .inl (cy 1, 101, .inl (fun _ => 0)))] H := hP
  have hD : va_D A [((ma 200), mo_0 ma), ((ma 11), .inl (cy 3, 8, .inl (fun _ => 0))), ((ma 12), .inl (cy 1, 8, .inl (fun _ => 0))), ((ma 13), .inl (cy 1, 8, .inl (fun _ => 0))), ((ma 14), .inl (cy 3, 12, .inl (fun _ => 0))), ((ma 15), .inl (cy 1, 12, .inl (fun _ => 0))), ((ma 16), .inl (cy 1, 12, .inl (fun _ => 0))), ((ma 17), .inl (cy 1, 12, .inl (fun _ => 0))), ((ma 18), .inl (cy 1, 12, .inl (fun _ => 0))), ((ma 19), .inl (cy 3, 12, .inl (fun _ => 0))), ((ma 20), .inl (cy 3, 8, .inl (fun _ => 0))), ((ma 21), .inl (cy 1, 8, .inl (fun _ => 0))), ((ma 22), .inl (cy 1, 8, .inl (fun _ => 0))), ((ma 23), .inl (cy 1, 8, .inl (fun _ => 0))), ((ma 24), .inl (cy 1, 8, .inl (fun _ => 0))), ((ma 33), .inl (cy 1, 600, .inl (fun _ => 0))), ((ma 68), .inl (cy 1, 8, .inl (fun _ => 0))), ((ma 69), .inl (cy 1, 8, .inl (fun _ => 0))), ((ma 70), .inl (cy 1, 8, .inl (fun _ => 0))), ((ma 73), .inl (cy 1, 241, .inl (fun _ => 0))), ((ma 74), .inl (cy 1, 241, .inl (fun _ => 0))), ((ma 75), .inl (cy 1, 241, .inl (upd (fun _ => 0) 0 1))), ((ma 93), .inl (cy 1, 1000, .inl (fun _ => 0))), ((ma 94), .inl (cy 3, 1001, .inl (fun _ => 0))), ((ma 95), .inl (cy 1, 1000, .inl (fun _ => 0))), ((ma 97), .inl (cy 1, 101, .inl (fun _ => 0))), ((ma 98), .inl (cy 1, 101, .inl (fun _ => 0))), ((ma 99), .inl (cy 1, 101, .inl (fun _ => 0))), ((ma 100), .inl (cy 1, 101, .inl (fun _ => 0)))] := hD
  rcases hw with ⟨rfl, p_2⟩ | ⟨rfl, p_2⟩
  · refine lv_aload_n hx hb dL_law_343 rfl (lv_at hl 1 rfl) ?_
    refine lv_aload_n hx hb dL_law_344 rfl (lv_at hl 3 rfl) ?_
    refine lv_iload_n hx hb dL_law_345 rfl (lv_at hl 0 rfl) ?_
    refine lv_iconst (v := 1) hx hb dL_law_346 (by decide) ?_
    refine lv_iadd hx hb dL_law_347 ?_
    refine gp_ni 1 (by decide) ?_
    refine va_sld hx hb hX hbl hbA hS (by unfold vp_in; decide) dL_law_348 ?_
    refine gp_ni (xs 1) rfl ?_
    refine lv_aload_n hx hb dL_law_349 rfl (lv_at hl 3 rfl) ?_
    refine lv_iload_n hx hb dL_law_350 rfl (lv_at hl 0 rfl) ?_
    refine lv_iconst (v := 2) hx hb dL_law_351 (by decide) ?_
    refine lv_iadd hx hb dL_law_352 ?_
    refine gp_ni 2 (by decide) ?_
    refine va_sld hx hb hX hbl hbA hS (by unfold vp_in; decide) dL_law_353 ?_
    refine gp_ni (xs 2) rfl ?_
    refine lv_aload_n hx hb dL_law_354 rfl (lv_at hl 3 rfl) ?_
    refine lv_iload_n hx hb dL_law_355 rfl (lv_at hl 0 rfl) ?_
    refine lv_iconst (v := 3) hx hb dL_law_356 (by decide) ?_
    refine lv_iadd hx hb dL_law_357 ?_
    refine gp_ni 3 (by decide) ?_
    refine va_sld hx hb hX hbl hbA hS (by unfold vp_in; decide) dL_law_358 ?_
    refine gp_ni (xs 3) rfl ?_
    refine lv_aload_n hx hb dL_law_359 rfl (lv_at hl 3 rfl) ?_
    refine lv_iload_n hx hb dL_law_360 rfl (lv_at hl 0 rfl) ?_
    refine lv_iconst (v := 4) hx hb dL_law_361 (by decide) ?_
    refine lv_iadd hx hb dL_law_362 ?_
    refine gp_ni 4 (by decide) ?_
    refine va_sld hx hb hX hbl hbA hS (by unfold vp_in; decide) dL_law_363 ?_
    refine gp_ni (xs 4) rfl ?_
    have hPc := hP.sub (ws' := [((ma 200), mo_0 ma)]) [0] rfl
    have hDc := hD.sub (ws' := [((ma 200), mo_0 ma)]) [0] (by decide) rfl
    have hFc := va_free (wc := [((ma 200), mo_0 ma)]) hD hS hA [0] rfl
    refine va_calli (va_runV (As := [.int (xs 1), .int (xs 2), .int (xs 3), .int (xs 4)]) (rest := [.int 1]) ⟨hx, hb, hml, hown, hts⟩ (kX12_board l D cy H.size ma (xs 1) (xs 2) (xs 3) (xs 4)) (cwV 4 hts gc_kX12_board rfl rfl rfl (by decide +kernel) ⟨Nat.le_of_ble_eq_true rfl, Nat.le_of_ble_eq_true rfl⟩) (gp_preV (RX12, TX12, 104) 12 0 hPc hDc hK hN rfl rfl) rfl rfl hl.1 rfl (lv_room (Nat.le_of_ble_eq_true rfl)) dL_law_364 ⟨Nat.le_of_ble_eq_true rfl, Nat.le_of_ble_eq_true rfl⟩) hS (fun q _ h => hFc q h) hFc (fun r_3 u t H locs ht hvm hw hB hz1 hk1 hS => ?_)
    obtain ⟨hP, hD⟩ := gp_join (wr := []) (w1 := []) hP hD [0] [] rfl rfl (by decide) (by decide) hk1 hFc ht hB
    have hP : va_P D vwCl [] H := hP
    have hD : va_D A [] := hD
    rcases hw with ⟨rfl, p_4⟩ | ⟨rfl, p_4⟩
    · refine lv_icmp_eq (tgt := 1364) hx hb dL_law_367 (by decide) (fun c_5 => ?_) (fun c_5 => absurd (by decide) c_5)
      refine lv_iinc (v := 7) (lv' := [(3, .int 7), (2, .ref (ma 200)), (1, .ref (xa 0)), (0, .ref b)]) hx hb dL_law_1364 hl (k := 0) rfl (by decide) (by decide) rfl (fun ls hl => ?_)
      refine lv_goto (tgt := 18) hx hb dL_law_1367 (by decide) ?_
      refine lv_iload_n hx hb dL_law_18 rfl (lv_at hl 0 rfl) ?_
      refine lv_aload_n hx hb dL_law_19 rfl (lv_at hl 3 rfl) ?_
      refine va_slen hx hb hX hbl hbA hS dL_law_20 ?_
      refine gp_ni 7 rfl ?_
      refine lv_bipush (v := 7) hx hb dL_law_21 (by decide) ?_
      refine lv_isub hx hb dL_law_23 ?_
      refine gp_ni 0 (by decide) ?_
      refine lv_icmp_gt (tgt := 1370) hx hb dL_law_24 (by decide) (fun c_6 => ?_) (fun c_6 => absurd (by decide) c_6)
      refine lv_iconst (v := 1) hx hb dL_law_1370 (by decide) ?_
      refine va_forget (fun q hq => hSA _ (hS.2.2 q hq)) ?_
      refine W.widen (k := 600000) (n := 7302250) (by decide) (by decide) ?_
      exact lw_ret hx hb hr hlocks dL_law_1371
    · exact absurd p_2 p_4
  · refine lv_aload_n hx hb dL_law_343 rfl (lv_at hl 1 rfl) ?_
    refine lv_aload_n hx hb dL_law_344 rfl (lv_at hl 3 rfl) ?_
    refine lv_iload_n hx hb dL_law_345 rfl (lv_at hl 0 rfl) ?_
    refine lv_iconst (v := 1) hx hb dL_law_346 (by decide) ?_
    refine lv_iadd hx hb dL_law_347 ?_
    refine gp_ni 1 (by decide) ?_
    refine va_sld hx hb hX hbl hbA hS (by unfold vp_in; decide) dL_law_348 ?_
    refine gp_ni (xs 1) rfl ?_
    refine lv_aload_n hx hb dL_law_349 rfl (lv_at hl 3 rfl) ?_
    refine lv_iload_n hx hb dL_law_350 rfl (lv_at hl 0 rfl) ?_
    refine lv_iconst (v := 2) hx hb dL_law_351 (by decide) ?_
    refine lv_iadd hx hb dL_law_352 ?_
    refine gp_ni 2 (by decide) ?_
    refine va_sld hx hb hX hbl hbA hS (by unfold vp_in; decide) dL_law_353 ?_
    refine gp_ni (xs 2) rfl ?_
    refine lv_aload_n hx hb dL_law_354 rfl (lv_at hl 3 rfl) ?_
    refine lv_iload_n hx hb dL_law_355 rfl (lv_at hl 0 rfl) ?_
    refine lv_iconst (v := 3) hx hb dL_law_356 (by decide) ?_
    refine lv_iadd hx hb dL_law_357 ?_
    refine gp_ni 3 (by decide) ?_
    refine va_sld hx hb hX hbl hbA hS (by unfold vp_in; decide) dL_law_358 ?_
    refine gp_ni (xs 3) rfl ?_
    refine lv_aload_n hx hb dL_law_359 rfl (lv_at hl 3 rfl) ?_
    refine lv_iload_n hx hb dL_law_360 rfl (lv_at hl 0 rfl) ?_
    refine lv_iconst (v := 4) hx hb dL_law_361 (by decide) ?_
    refine lv_iadd hx hb dL_law_362 ?_
    refine gp_ni 4 (by decide) ?_
    refine va_sld hx hb hX hbl hbA hS (by unfold vp_in; decide) dL_law_363 ?_
    refine gp_ni (xs 4) rfl ?_
    have hPc := hP.sub (ws' := [((ma 200), mo_0 ma)]) [0] rfl
    have hDc := hD.sub (ws' := [((ma 200), mo_0 ma)]) [0] (by decide) rfl
    have hFc := va_free (wc := [((ma 200), mo_0 ma)]) hD hS hA [0] rfl
    refine va_calli (va_runV (As := [.int (xs 1), .int (xs 2), .int (xs 3), .int (xs 4)]) (rest := [.int 0]) ⟨hx, hb, hml, hown, hts⟩ (kX12_board l D cy H.size ma (xs 1) (xs 2) (xs 3) (xs 4)) (cwV 4 hts gc_kX12_board rfl rfl rfl (by decide +kernel) ⟨Nat.le_of_ble_eq_true rfl, Nat.le_of_ble_eq_true rfl⟩) (gp_preV (RX12, TX12, 104) 12 0 hPc hDc hK hN rfl rfl) rfl rfl hl.1 rfl (lv_room (Nat.le_of_ble_eq_true rfl)) dL_law_364 ⟨Nat.le_of_ble_eq_true rfl, Nat.le_of_ble_eq_true rfl⟩) hS (fun q _ h => hFc q h) hFc (fun r_7 u t H locs ht hvm hw hB hz1 hk1 hS => ?_)
    obtain ⟨hP, hD⟩ := gp_join (wr := []) (w1 := []) hP hD [0] [] rfl rfl (by decide) (by decide) hk1 hFc ht hB
    have hP : va_P D vwCl [] H := hP
    have hD : va_D A [] := hD
    rcases hw with ⟨rfl, p_8⟩ | ⟨rfl, p_8⟩
    · exact absurd p_8 p_2
    · refine lv_icmp_eq (tgt := 1364) hx hb dL_law_367 (by decide) (fun c_9 => ?_) (fun c_9 => absurd (by decide) c_9)
      refine lv_iinc (v := 7) (lv' := [(3, .int 7), (2, .ref (ma 200)), (1, .ref (xa 0)), (0, .ref b)]) hx hb dL_law_1364 hl (k := 0) rfl (by decide) (by decide) rfl (fun ls hl => ?_)
      refine lv_goto (tgt := 18) hx hb dL_law_1367 (by decide) ?_
      refine lv_iload_n hx hb dL_law_18 rfl (lv_at hl 0 rfl) ?_
      refine lv_aload_n hx hb dL_law_19 rfl (lv_at hl 3 rfl) ?_
      refine va_slen hx hb hX hbl hbA hS dL_law_20 ?_
      refine gp_ni 7 rfl ?_
      refine lv_bipush (v := 7) hx hb dL_law_21 (by decide) ?_
      refine lv_isub hx hb dL_law_23 ?_
      refine gp_ni 0 (by decide) ?_
      refine lv_icmp_gt (tgt := 1370) hx hb dL_law_24 (by decide) (fun c_10 => ?_) (fun c_10 => absurd (by decide) c_10)
      refine lv_iconst (v := 1) hx hb dL_law_1370 (by decide) ?_
      refine va_forget (fun q hq => hSA _ (hS.2.2 q hq)) ?_
      refine W.widen (k := 600000) (n := 7302250) (by decide) (by decide) ?_
      exact lw_ret hx hb hr hlocks dL_law_1371

set_option maxHeartbeats 4000000 in
set_option maxRecDepth 100000 in
theorem law_4 {p : Program} {e : Env} {s : State} {m : MethodId} {below : List Frame} {meth : Method} {c : Code} (l : Launch) {b : Nat} {xs : Nat → Int32} (C0 : lw_At p s m meth c b 7 xs) {D : va_G} {cy : Nat → ClassId} (hK : va_K D vwCl (gp_T cy) s) (hN : gp_N s) (xa ma : Nat → Nat) (fO : Nat → Option Nat) (hO : fO 0 = some (xa 6)) {A : Nat → Prop} (hAe : A = (fun q : Nat => s.heap.size ≤ q)) {H : Heap} {locs : List Loc} {ls : Array Slot} (hP : va_P D vwCl (lw_W cy xa ma fO) H) (hD : va_D A (lw_W cy xa ma fO)) (hS : va_S A s.heap H locs) (hl : lv_has ls 4 [(3, .int 0), (2, .ref (ma 200)), (1, .ref (xa 0)), (0, .ref b)]) : W p l e room_1 s m #[Value.ref b] below meth c H locs 153 14835 (lw_Z below #[Value.ref b] s) (F0 m 372 ls []) := by
  obtain ⟨hx, hb, hr, hml, hown, hts, hX, hbl, hlocks, hgv⟩ := id C0
  have hown : s.vm.findClass RL = some m.cls := hown
  have hA : ∀ q : Nat, s.heap.size ≤ q → A q := fun q h => by rw [hAe]; exact h
  have hbA : ¬ A b := by rw [hAe]; exact Nat.not_le.mpr hbl
  have hSA : ∀ q : Nat, A q → s.heap.size ≤ q := fun q h => by rw [hAe] at h; exact h
  refine lv_aload_n hx hb dL_law_372 rfl (lv_at hl 2 rfl) ?_
  refine lv_aload_n hx hb dL_law_373 rfl (lv_at hl 3 rfl) ?_
  refine lv_iload_n hx hb dL_law_374 rfl (lv_at hl 0 rfl) ?_
  refine lv_iconst (v := 1) hx hb dL_law_375 (by decide) ?_
  refine lv_iadd hx hb dL_law_376 ?_
  refine gp_ni 1 (by decide) ?_
  refine va_sld hx hb hX hbl hbA hS (by unfold vp_in; decide) dL_law_377 ?_
  refine gp_ni (xs 1) rfl ?_
  refine lv_aload_n hx hb dL_law_378 rfl (lv_at hl 3 rfl) ?_
  refine lv_iload_n hx hb dL_law_379 rfl (lv_at hl 0 rfl) ?_
  refine lv_iconst (v := 2) hx hb dL_law_380 (by decide) ?_
  refine lv_iadd hx hb dL_law_381 ?_
  refine gp_ni 2 (by decide) ?_
  refine va_sld hx hb hX hbl hbA hS (by unfold vp_in; decide) dL_law_382 ?_
  refine gp_ni (xs 2) rfl ?_
  refine lv_aload_n hx hb dL_law_383 rfl (lv_at hl 3 rfl) ?_
  refine lv_iload_n hx hb dL_law_384 rfl (lv_at hl 0 rfl) ?_
  refine lv_iconst (v := 3) hx hb dL_law_385 (by decide) ?_
  refine lv_iadd hx hb dL_law_386 ?_
  refine gp_ni 3 (by decide) ?_
  refine va_sld hx hb hX hbl hbA hS (by unfold vp_in; decide) dL_law_387 ?_
  refine gp_ni (xs 3) rfl ?_
  have hPc := hP.sub (ws' := [((xa 0), .inr (11, [.ref (xa 1), .ref (xa 3), .ref (xa 7), .ref (xa 11), .ref (xa 20), .ref (xa 24), .ref (xa 25), .ref (xa 29)])), ((xa 11), .inr (7, [.int (-50), .int 0, .int 50, .int 80, .int (-60), .int (-40), .int 60, .int (-40), .int 0, .int 4, .int 0, .ref (xa 12), .ref (xa 13), .ref (xa 14), .ref (xa 15), .ref (xa 16), .ref (xa 17), .ref (xa 18), .ref (xa 19)]))]) [0, 11] rfl
  have hDc := hD.sub (ws' := [((xa 0), .inr (11, [.ref (xa 1), .ref (xa 3), .ref (xa 7), .ref (xa 11), .ref (xa 20), .ref (xa 24), .ref (xa 25), .ref (xa 29)])), ((xa 11), .inr (7, [.int (-50), .int 0, .int 50, .int 80, .int (-60), .int (-40), .int 60, .int (-40), .int 0, .int 4, .int 0, .ref (xa 12), .ref (xa 13), .ref (xa 14), .ref (xa 15), .ref (xa 16), .ref (xa 17), .ref (xa 18), .ref (xa 19)]))]) [0, 11] (by decide) rfl
  have hFc := va_free (wc := [((xa 0), .inr (11, [.ref (xa 1), .ref (xa 3), .ref (xa 7), .ref (xa 11), .ref (xa 20), .ref (xa 24), .ref (xa 25), .ref (xa 29)])), ((xa 11), .inr (7, [.int (-50), .int 0, .int 50, .int 80, .int (-60), .int (-40), .int 60, .int (-40), .int 0, .int 4, .int 0, .ref (xa 12), .ref (xa 13), .ref (xa 14), .ref (xa 15), .ref (xa 16), .ref (xa 17), .ref (xa 18), .ref (xa 19)]))]) hD hS hA [0, 11] rfl
  refine va_calli (va_runV (As := [.int (xs 1), .int (xs 2), .int (xs 3)]) (rest := []) ⟨hx, hb, hml, hown, hts⟩ (kX11_heights l D cy H.size xa (xs 1) (xs 2) (xs 3)) (cwV 3 hts gc_kX11_heights rfl rfl rfl (by decide +kernel) ⟨Nat.le_of_ble_eq_true rfl, Nat.le_of_ble_eq_true rfl⟩) (gp_preV (RX11, TX11, 8) 11 0 hPc hDc hK hN rfl rfl) rfl rfl hl.1 rfl (lv_room (Nat.le_of_ble_eq_true rfl)) dL_law_388 ⟨Nat.le_of_ble_eq_true rfl, Nat.le_of_ble_eq_true rfl⟩) hS (fun q _ h => hFc q h) hFc (fun r_1 u t H locs ht hvm hw hB hz1 hk1 hS => ?_)
  obtain ⟨hP, hD⟩ := gp_join (wr := [((ma 200), mo_0 ma), ((ma 11), .inl (cy 3, 8, .inl (fun _ => 0))), ((ma 12), .inl (cy 1, 8, .inl (fun _ => 0))), ((ma 13), .inl (cy 1, 8, .inl (fun _ => 0))), ((ma 14), .inl (cy 3, 12, .inl (fun _ => 0))), ((ma 15), .inl (cy 1, 12, .inl (fun _ => 0))), ((ma 16), .inl (cy 1, 12, .inl (fun _ => 0))), ((ma 17), .inl (cy 1, 12, .inl (fun _ => 0))), ((ma 18), .inl (cy 1, 12, .inl (fun _ => 0))), ((ma 19), .inl (cy 3, 12, .inl (fun _ => 0))), ((ma 20), .inl (cy 3, 8, .inl (fun _ => 0))), ((ma 21), .inl (cy 1, 8, .inl (fun _ => 0))), ((ma 22), .inl (cy 1, 8, .inl (fun _ => 0))), ((ma 23), .inl (cy 1, 8, .inl (fun _ => 0))), ((ma 24), .inl (cy 1, 8, .inl (fun _ => 0))), ((ma 33), .inl (cy 1, 600, .inl (fun _ => 0))), ((ma 68), .inl (cy 1, 8, .inl (fun _ => 0))), ((ma 69), .inl (cy 1, 8, .inl (fun _ => 0))), ((ma 70), .inl (cy 1, 8, .inl (fun _ => 0))), ((ma 73), .inl (cy 1, 241, .inl (fun _ => 0))), ((ma 74), .inl (cy 1, 241, .inl (fun _ => 0))), ((ma 75), .inl (cy 1, 241, .inl (upd (fun _ => 0) 0 1))), ((ma 93), .inl (cy 1, 1000, .inl (fun _ => 0))), ((ma 94), .inl (cy 3, 1001, .inl (fun _ => 0))), ((ma 95), .inl (cy 1, 1000, .inl (fun _ => 0))), ((ma 97), .inl (cy 1, 101, .inl (fun _ => 0))), ((ma 98), .inl (cy 1, 101, .inl (fun _ => 0))), ((ma 99), .inl (cy 1, 101, .inl (fun _ => 0))), ((ma 100), .inl (cy 1, 101, .inl (fun _ => 0)))]) (w1 := []) hP hD [0, 11] [67, 68, 69, 70, 71, 72, 73, 74, 75, 76, 77, 78, 79, 80, 81, 82, 83, 84, 85, 86, 87, 88, 89, 90, 91, 92, 93, 94, 95] rfl rfl (by decide) (by decide) hk1 hFc ht hB
  have hP : va_P D vwCl [((ma 200), mo_0 ma), ((ma 11), .inl (cy 3, 8, .inl (fun _ => 0))), ((ma 12), .inl (cy 1, 8, .inl (fun _ => 0))), ((ma 13), .inl (cy 1, 8, .inl (fun _ => 0))), ((ma 14), .inl (cy 3, 12, .inl (fun _ => 0))), ((ma 15), .inl (cy 1, 12, .inl (fun _ => 0))), ((ma 16), .inl (cy 1, 12, .inl (fun _ => 0))), ((ma 17), .inl (cy 1, 12, .inl (fun _ => 0))), ((ma 18), .inl (cy 1, 12, .inl (fun _ => 0))), ((ma 19), .inl (cy 3, 12, .inl (fun _ => 0))), ((ma 20), .inl (cy 3, 8, .inl (fun _ => 0))), ((ma 21), .inl (cy 1, 8, .inl (fun _ => 0))), ((ma 22), .inl (cy 1, 8, .inl (fun _ => 0))), ((ma 23), .inl (cy 1, 8, .inl (fun _ => 0))), ((ma 24), .inl (cy 1, 8, .inl (fun _ => 0))), ((ma 33), .inl (cy 1, 600, .inl (fun _ => 0))), ((ma 68), .inl (cy 1, 8, .inl (fun _ => 0))), ((ma 69), .inl (cy 1, 8, .inl (fun _ => 0))), ((ma 70), .inl (cy 1, 8, .inl (fun _ => 0))), ((ma 73), .inl (cy 1, 241, .inl (fun _ => 0))), ((ma 74), .inl (cy 1, 241, .inl (fun _ => 0))), ((ma 75), .inl (cy 1, 241, .inl (upd (fun _ => 0) 0 1))), ((ma 93), .inl (cy 1, 1000, .inl (fun _ => 0))), ((ma 94), .inl (cy 3, 1001, .inl (fun _ => 0))), ((ma 95), .inl (cy 1, 1000, .inl (fun _ => 0))), ((ma 97), .inl (cy 1, 101, .inl (fun _ => 0))), ((ma 98), .inl (cy 1, 101, .inl (fun _ => 0))), ((ma 99), .inl (cy 1, 101, .inl (fun _ => 0))), ((ma 100), .inl (cy 1, 101, .inl (fun _ => 0)))] H := hP
  have hD : va_D A [((ma 200), mo_0 ma), ((ma 11), .inl (cy 3, 8, .inl (fun _ => 0))), ((ma 12), .inl (cy 1, 8, .inl (fun _ => 0))), ((ma 13), .inl (cy 1, 8, .inl (fun _ => 0))), ((ma 14), .inl (cy 3, 12, .inl (fun _ => 0))), ((ma 15), .inl (cy 1, 12, .inl (fun _ => 0))), ((ma 16), .inl (cy 1, 12, .inl (fun _ => 0))), ((ma 17), .inl (cy 1, 12, .inl (fun _ => 0))), ((ma 18), .inl (cy 1, 12, .inl (fun _ => 0))), ((ma 19), .inl (cy 3, 12, .inl (fun _ => 0))), ((ma 20), .inl (cy 3, 8, .inl (fun _ => 0))), ((ma 21), .inl (cy 1, 8, .inl (fun _ => 0))), ((ma 22), .inl (cy 1, 8, .inl (fun _ => 0))), ((ma 23), .inl (cy 1, 8, .inl (fun _ => 0))), ((ma 24), .inl (cy 1, 8, .inl (fun _ => 0))), ((ma 33), .inl (cy 1, 600, .inl (fun _ => 0))), ((ma 68), .inl (cy 1, 8, .inl (fun _ => 0))), ((ma 69), .inl (cy 1, 8, .inl (fun _ => 0))), ((ma 70), .inl (cy 1, 8, .inl (fun _ => 0))), ((ma 73), .inl (cy 1, 241, .inl (fun _ => 0))), ((ma 74), .inl (cy 1, 241, .inl (fun _ => 0))), ((ma 75), .inl (cy 1, 241, .inl (upd (fun _ => 0) 0 1))), ((ma 93), .inl (cy 1, 1000, .inl (fun _ => 0))), ((ma 94), .inl (cy 3, 1001, .inl (fun _ => 0))), ((ma 95), .inl (cy 1, 1000, .inl (fun _ => 0))), ((ma 97), .inl (cy 1, 101, .inl (fun _ => 0))), ((ma 98), .inl (cy 1, 101, .inl (fun _ => 0))), ((ma 99), .inl (cy 1, 101, .inl (fun _ => 0))), ((ma 100), .inl (cy 1, 101, .inl (fun _ => 0)))] := hD
  rcases hw with ⟨rfl, p_2⟩ | ⟨rfl, p_2⟩
  · refine lv_aload_n hx hb dL_law_391 rfl (lv_at hl 1 rfl) ?_
    refine lv_aload_n hx hb dL_law_392 rfl (lv_at hl 3 rfl) ?_
    refine lv_iload_n hx hb dL_law_393 rfl (lv_at hl 0 rfl) ?_
    refine lv_iconst (v := 1) hx hb dL_law_394 (by decide) ?_
    refine lv_iadd hx hb dL_law_395 ?_
    refine gp_ni 1 (by decide) ?_
    refine va_sld hx hb hX hbl hbA hS (by unfold vp_in; decide) dL_law_396 ?_
    refine gp_ni (xs 1) rfl ?_
    refine lv_aload_n hx hb dL_law_397 rfl (lv_at hl 3 rfl) ?_
    refine lv_iload_n hx hb dL_law_398 rfl (lv_at hl 0 rfl) ?_
    refine lv_iconst (v := 2) hx hb dL_law_399 (by decide) ?_
    refine lv_iadd hx hb dL_law_400 ?_
    refine gp_ni 2 (by decide) ?_
    refine va_sld hx hb hX hbl hbA hS (by unfold vp_in; decide) dL_law_401 ?_
    refine gp_ni (xs 2) rfl ?_
    refine lv_aload_n hx hb dL_law_402 rfl (lv_at hl 3 rfl) ?_
    refine lv_iload_n hx hb dL_law_403 rfl (lv_at hl 0 rfl) ?_
    refine lv_iconst (v := 3) hx hb dL_law_404 (by decide) ?_
    refine lv_iadd hx hb dL_law_405 ?_
    refine gp_ni 3 (by decide) ?_
    refine va_sld hx hb hX hbl hbA hS (by unfold vp_in; decide) dL_law_406 ?_
    refine gp_ni (xs 3) rfl ?_
    have hPc := hP.sub (ws' := [((ma 200), mo_0 ma)]) [0] rfl
    have hDc := hD.sub (ws' := [((ma 200), mo_0 ma)]) [0] (by decide) rfl
    have hFc := va_free (wc := [((ma 200), mo_0 ma)]) hD hS hA [0] rfl
    refine va_calli (va_runV (As := [.int (xs 1), .int (xs 2), .int (xs 3)]) (rest := [.int 1]) ⟨hx, hb, hml, hown, hts⟩ (kX12_heights l D cy H.size ma (xs 1) (xs 2) (xs 3)) (cwV 3 hts gc_kX12_heights rfl rfl rfl (by decide +kernel) ⟨Nat.le_of_ble_eq_true rfl, Nat.le_of_ble_eq_true rfl⟩) (gp_preV (RX12, TX12, 104) 12 0 hPc hDc hK hN rfl rfl) rfl rfl hl.1 rfl (lv_room (Nat.le_of_ble_eq_true rfl)) dL_law_407 ⟨Nat.le_of_ble_eq_true rfl, Nat.le_of_ble_eq_true rfl⟩) hS (fun q _ h => hFc q h) hFc (fun r_3 u t H locs ht hvm hw hB hz1 hk1 hS => ?_)
    obtain ⟨hP, hD⟩ := gp_join (wr := []) (w1 := []) hP hD [0] [] rfl rfl (by decide) (by decide) hk1 hFc ht hB
    have hP : va_P D vwCl [] H := hP
    have hD : va_D A [] := hD
    rcases hw with ⟨rfl, p_4⟩ | ⟨rfl, p_4⟩
    · refine lv_icmp_eq (tgt := 1364) hx hb dL_law_410 (by decide) (fun c_5 => ?_) (fun c_5 => absurd (by decide) c_5)
      refine lv_iinc (v := 7) (lv' := [(3, .int 7), (2, .ref (ma 200)), (1, .ref (xa 0)), (0, .ref b)]) hx hb dL_law_1364 hl (k := 0) rfl (by decide) (by decide) rfl (fun ls hl => ?_)
      refine lv_goto (tgt := 18) hx hb dL_law_1367 (by decide) ?_
      refine lv_iload_n hx hb dL_law_18 rfl (lv_at hl 0 rfl) ?_
      refine lv_aload_n hx hb dL_law_19 rfl (lv_at hl 3 rfl) ?_
      refine va_slen hx hb hX hbl hbA hS dL_law_20 ?_
      refine gp_ni 7 rfl ?_
      refine lv_bipush (v := 7) hx hb dL_law_21 (by decide) ?_
      refine lv_isub hx hb dL_law_23 ?_
      refine gp_ni 0 (by decide) ?_
      refine lv_icmp_gt (tgt := 1370) hx hb dL_law_24 (by decide) (fun c_6 => ?_) (fun c_6 => absurd (by decide) c_6)
      refine lv_iconst (v := 1) hx hb dL_law_1370 (by decide) ?_
      refine va_forget (fun q hq => hSA _ (hS.2.2 q hq)) ?_
      refine W.widen (k := 600000) (n := 7302250) (by decide) (by decide) ?_
      exact lw_ret hx hb hr hlocks dL_law_1371
    · exact absurd p_2 p_4
  · refine lv_aload_n hx hb dL_law_391 rfl (lv_at hl 1 rfl) ?_
    refine lv_aload_n hx hb dL_law_392 rfl (lv_at hl 3 rfl) ?_
    refine lv_iload_n hx hb dL_law_393 rfl (lv_at hl 0 rfl) ?_
    refine lv_iconst (v := 1) hx hb dL_law_394 (by decide) ?_
    refine lv_iadd hx hb dL_law_395 ?_
    refine gp_ni 1 (by decide) ?_
    refine va_sld hx hb hX hbl hbA hS (by unfold vp_in; decide) dL_law_396 ?_
    refine gp_ni (xs 1) rfl ?_
    refine lv_aload_n hx hb dL_law_397 rfl (lv_at hl 3 rfl) ?_
    refine lv_iload_n hx hb dL_law_398 rfl (lv_at hl 0 rfl) ?_
    refine lv_iconst (v := 2) hx hb dL_law_399 (by decide) ?_
    refine lv_iadd hx hb dL_law_400 ?_
    refine gp_ni 2 (by decide) ?_
    refine va_sld hx hb hX hbl hbA hS (by unfold vp_in; decide) dL_law_401 ?_
    refine gp_ni (xs 2) rfl ?_
    refine lv_aload_n hx hb dL_law_402 rfl (lv_at hl 3 rfl) ?_
    refine lv_iload_n hx hb dL_law_403 rfl (lv_at hl 0 rfl) ?_
    refine lv_iconst (v := 3) hx hb dL_law_404 (by decide) ?_
    refine lv_iadd hx hb dL_law_405 ?_
    refine gp_ni 3 (by decide) ?_
    refine va_sld hx hb hX hbl hbA hS (by unfold vp_in; decide) dL_law_406 ?_
    refine gp_ni (xs 3) rfl ?_
    have hPc := hP.sub (ws' := [((ma 200), mo_0 ma)]) [0] rfl
    have hDc := hD.sub (ws' := [((ma 200), mo_0 ma)]) [0] (by decide) rfl
    have hFc := va_free (wc := [((ma 200), mo_0 ma)]) hD hS hA [0] rfl
    refine va_calli (va_runV (As := [.int (xs 1), .int (xs 2), .int (xs 3)]) (rest := [.int 0]) ⟨hx, hb, hml, hown, hts⟩ (kX12_heights l D cy H.size ma (xs 1) (xs 2) (xs 3)) (cwV 3 hts gc_kX12_heights rfl rfl rfl (by decide +kernel) ⟨Nat.le_of_ble_eq_true rfl, Nat.le_of_ble_eq_true rfl⟩) (gp_preV (RX12, TX12, 104) 12 0 hPc hDc hK hN rfl rfl) rfl rfl hl.1 rfl (lv_room (Nat.le_of_ble_eq_true rfl)) dL_law_407 ⟨Nat.le_of_ble_eq_true rfl, Nat.le_of_ble_eq_true rfl⟩) hS (fun q _ h => hFc q h) hFc (fun r_7 u t H locs ht hvm hw hB hz1 hk1 hS => ?_)
    obtain ⟨hP, hD⟩ := gp_join (wr := []) (w1 := []) hP hD [0] [] rfl rfl (by decide) (by decide) hk1 hFc ht hB
    have hP : va_P D vwCl [] H := hP
    have hD : va_D A [] := hD
    rcases hw with ⟨rfl, p_8⟩ | ⟨rfl, p_8⟩
    · exact absurd p_8 p_2
    · refine lv_icmp_eq (tgt := 1364) hx hb dL_law_410 (by decide) (fun c_9 => ?_) (fun c_9 => absurd (by decide) c_9)
      refine lv_iinc (v := 7) (lv' := [(3, .int 7), (2, .ref (ma 200)), (1, .ref (xa 0)), (0, .ref b)]) hx hb dL_law_1364 hl (k := 0) rfl (by decide) (by decide) rfl (fun ls hl => ?_)
      refine lv_goto (tgt := 18) hx hb dL_law_1367 (by decide) ?_
      refine lv_iload_n hx hb dL_law_18 rfl (lv_at hl 0 rfl) ?_
      refine lv_aload_n hx hb dL_law_19 rfl (lv_at hl 3 rfl) ?_
      refine va_slen hx hb hX hbl hbA hS dL_law_20 ?_
      refine gp_ni 7 rfl ?_
      refine lv_bipush (v := 7) hx hb dL_law_21 (by decide) ?_
      refine lv_isub hx hb dL_law_23 ?_
      refine gp_ni 0 (by decide) ?_
      refine lv_icmp_gt (tgt := 1370) hx hb dL_law_24 (by decide) (fun c_10 => ?_) (fun c_10 => absurd (by decide) c_10)
      refine lv_iconst (v := 1) hx hb dL_law_1370 (by decide) ?_
      refine va_forget (fun q hq => hSA _ (hS.2.2 q hq)) ?_
      refine W.widen (k := 600000) (n := 7302250) (by decide) (by decide) ?_
      exact lw_ret hx hb hr hlocks dL_law_1371

set_option maxHeartbeats 4000000 in
set_option maxRecDepth 100000 in
theorem law_5 {p : Program} {e : Env} {s : State} {m : MethodId} {below : List Frame} {meth : Method} {c : Code} (l : Launch) {b : Nat} {xs : Nat → Int32} (C0 : lw_At p s m meth c b 7 xs) {D : va_G} {cy : Nat → ClassId} (hK : va_K D vwCl (gp_T cy) s) (hN : gp_N s) (xa ma : Nat → Nat) (fO : Nat → Option Nat) (hO : fO 0 = some (xa 6)) {A : Nat → Prop} (hAe : A = (fun q : Nat => s.heap.size ≤ q)) {H : Heap} {locs : List Loc} {ls : Array Slot} (hP : va_P D vwCl (lw_W cy xa ma fO) H) (hD : va_D A (lw_W cy xa ma fO)) (hS : va_S A s.heap H locs) (hl : lv_has ls 4 [(3, .int 0), (2, .ref (ma 200)), (1, .ref (xa 0)), (0, .ref b)]) : W p l e room_1 s m #[Value.ref b] below meth c H locs 153 14835 (lw_Z below #[Value.ref b] s) (F0 m 415 ls []) := by
  obtain ⟨hx, hb, hr, hml, hown, hts, hX, hbl, hlocks, hgv⟩ := id C0
  have hown : s.vm.findClass RL = some m.cls := hown
  have hA : ∀ q : Nat, s.heap.size ≤ q → A q := fun q h => by rw [hAe]; exact h
  have hbA : ¬ A b := by rw [hAe]; exact Nat.not_le.mpr hbl
  have hSA : ∀ q : Nat, A q → s.heap.size ≤ q := fun q h => by rw [hAe] at h; exact h
  refine lv_aload_n hx hb dL_law_415 rfl (lv_at hl 2 rfl) ?_
  refine lv_aload_n hx hb dL_law_416 rfl (lv_at hl 3 rfl) ?_
  refine lv_iload_n hx hb dL_law_417 rfl (lv_at hl 0 rfl) ?_
  refine lv_iconst (v := 1) hx hb dL_law_418 (by decide) ?_
  refine lv_iadd hx hb dL_law_419 ?_
  refine gp_ni 1 (by decide) ?_
  refine va_sld hx hb hX hbl hbA hS (by unfold vp_in; decide) dL_law_420 ?_
  refine gp_ni (xs 1) rfl ?_
  refine lv_aload_n hx hb dL_law_421 rfl (lv_at hl 3 rfl) ?_
  refine lv_iload_n hx hb dL_law_422 rfl (lv_at hl 0 rfl) ?_
  refine lv_iconst (v := 2) hx hb dL_law_423 (by decide) ?_
  refine lv_iadd hx hb dL_law_424 ?_
  refine gp_ni 2 (by decide) ?_
  refine va_sld hx hb hX hbl hbA hS (by unfold vp_in; decide) dL_law_425 ?_
  refine gp_ni (xs 2) rfl ?_
  refine lv_aload_n hx hb dL_law_426 rfl (lv_at hl 3 rfl) ?_
  refine lv_iload_n hx hb dL_law_427 rfl (lv_at hl 0 rfl) ?_
  refine lv_iconst (v := 3) hx hb dL_law_428 (by decide) ?_
  refine lv_iadd hx hb dL_law_429 ?_
  refine gp_ni 3 (by decide) ?_
  refine va_sld hx hb hX hbl hbA hS (by unfold vp_in; decide) dL_law_430 ?_
  refine gp_ni (xs 3) rfl ?_
  have hPc := hP.sub (ws' := [((xa 0), .inr (11, [.ref (xa 1), .ref (xa 3), .ref (xa 7), .ref (xa 11), .ref (xa 20), .ref (xa 24), .ref (xa 25), .ref (xa 29)])), ((xa 11), .inr (7, [.int (-50), .int 0, .int 50, .int 80, .int (-60), .int (-40), .int 60, .int (-40), .int 0, .int 4, .int 0, .ref (xa 12), .ref (xa 13), .ref (xa 14), .ref (xa 15), .ref (xa 16), .ref (xa 17), .ref (xa 18), .ref (xa 19)])), ((xa 12), .inl (cy 3, 8, .inl (fun _ => 0))), ((xa 13), .inl (cy 1, 8, .inl (fun _ => 0))), ((xa 14), .inl (cy 1, 8, .inl (fun _ => 0)))]) [0, 11, 12, 13, 14] rfl
  have hDc := hD.sub (ws' := [((xa 0), .inr (11, [.ref (xa 1), .ref (xa 3), .ref (xa 7), .ref (xa 11), .ref (xa 20), .ref (xa 24), .ref (xa 25), .ref (xa 29)])), ((xa 11), .inr (7, [.int (-50), .int 0, .int 50, .int 80, .int (-60), .int (-40), .int 60, .int (-40), .int 0, .int 4, .int 0, .ref (xa 12), .ref (xa 13), .ref (xa 14), .ref (xa 15), .ref (xa 16), .ref (xa 17), .ref (xa 18), .ref (xa 19)])), ((xa 12), .inl (cy 3, 8, .inl (fun _ => 0))), ((xa 13), .inl (cy 1, 8, .inl (fun _ => 0))), ((xa 14), .inl (cy 1, 8, .inl (fun _ => 0)))]) [0, 11, 12, 13, 14] (by decide) rfl
  have hFc := va_free (wc := [((xa 0), .inr (11, [.ref (xa 1), .ref (xa 3), .ref (xa 7), .ref (xa 11), .ref (xa 20), .ref (xa 24), .ref (xa 25), .ref (xa 29)])), ((xa 11), .inr (7, [.int (-50), .int 0, .int 50, .int 80, .int (-60), .int (-40), .int 60, .int (-40), .int 0, .int 4, .int 0, .ref (xa 12), .ref (xa 13), .ref (xa 14), .ref (xa 15), .ref (xa 16), .ref (xa 17), .ref (xa 18), .ref (xa 19)])), ((xa 12), .inl (cy 3, 8, .inl (fun _ => 0))), ((xa 13), .inl (cy 1, 8, .inl (fun _ => 0))), ((xa 14), .inl (cy 1, 8, .inl (fun _ => 0)))]) hD hS hA [0, 11, 12, 13, 14] rfl
  refine va_calli (va_runV (As := [.int (xs 1), .int (xs 2), .int (xs 3)]) (rest := []) ⟨hx, hb, hml, hown, hts⟩ (kX11_seat l D cy H.size xa (xs 1) (xs 2) (xs 3)) (cwV 3 hts gc_kX11_seat rfl rfl rfl (by decide +kernel) ⟨Nat.le_of_ble_eq_true rfl, Nat.le_of_ble_eq_true rfl⟩) (gp_preV (RX11, TX11, 8) 11 0 hPc hDc hK hN rfl rfl) rfl rfl hl.1 rfl (lv_room (Nat.le_of_ble_eq_true rfl)) dL_law_431 ⟨Nat.le_of_ble_eq_true rfl, Nat.le_of_ble_eq_true rfl⟩) hS (fun q _ h => hFc q h) hFc (fun r_1 u t H locs ht hvm hw hB hz1 hk1 hS => ?_)
  obtain ⟨hP, hD⟩ := gp_join (wr := [((ma 200), mo_0 ma), ((ma 11), .inl (cy 3, 8, .inl (fun _ => 0))), ((ma 12), .inl (cy 1, 8, .inl (fun _ => 0))), ((ma 13), .inl (cy 1, 8, .inl (fun _ => 0))), ((ma 14), .inl (cy 3, 12, .inl (fun _ => 0))), ((ma 15), .inl (cy 1, 12, .inl (fun _ => 0))), ((ma 16), .inl (cy 1, 12, .inl (fun _ => 0))), ((ma 17), .inl (cy 1, 12, .inl (fun _ => 0))), ((ma 18), .inl (cy 1, 12, .inl (fun _ => 0))), ((ma 19), .inl (cy 3, 12, .inl (fun _ => 0))), ((ma 20), .inl (cy 3, 8, .inl (fun _ => 0))), ((ma 21), .inl (cy 1, 8, .inl (fun _ => 0))), ((ma 22), .inl (cy 1, 8, .inl (fun _ => 0))), ((ma 23), .inl (cy 1, 8, .inl (fun _ => 0))), ((ma 24), .inl (cy 1, 8, .inl (fun _ => 0))), ((ma 33), .inl (cy 1, 600, .inl (fun _ => 0))), ((ma 68), .inl (cy 1, 8, .inl (fun _ => 0))), ((ma 69), .inl (cy 1, 8, .inl (fun _ => 0))), ((ma 70), .inl (cy 1, 8, .inl (fun _ => 0))), ((ma 73), .inl (cy 1, 241, .inl (fun _ => 0))), ((ma 74), .inl (cy 1, 241, .inl (fun _ => 0))), ((ma 75), .inl (cy 1, 241, .inl (upd (fun _ => 0) 0 1))), ((ma 93), .inl (cy 1, 1000, .inl (fun _ => 0))), ((ma 94), .inl (cy 3, 1001, .inl (fun _ => 0))), ((ma 95), .inl (cy 1, 1000, .inl (fun _ => 0))), ((ma 97), .inl (cy 1, 101, .inl (fun _ => 0))), ((ma 98), .inl (cy 1, 101, .inl (fun _ => 0))), ((ma 99), .inl (cy 1, 101, .inl (fun _ => 0))), ((ma 100), .inl (cy 1, 101, .inl (fun _ => 0)))]) (w1 := []) hP hD [0, 11, 12, 13, 14] [67, 68, 69, 70, 71, 72, 73, 74, 75, 76, 77, 78, 79, 80, 81, 82, 83, 84, 85, 86, 87, 88, 89, 90, 91, 92, 93, 94, 95] rfl rfl (by decide) (by decide) hk1 hFc ht hB
  have hP : va_P D vwCl [((ma 200), mo_0 ma), ((ma 11), .inl (cy 3, 8, .inl (fun _ => 0))), ((ma 12), .inl (cy 1, 8, .inl (fun _ => 0))), ((ma 13), .inl (cy 1, 8, .inl (fun _ => 0))), ((ma 14), .inl (cy 3, 12, .inl (fun _ => 0))), ((ma 15), .inl (cy 1, 12, .inl (fun _ => 0))), ((ma 16), .inl (cy 1, 12, .inl (fun _ => 0))), ((ma 17), .inl (cy 1, 12, .inl (fun _ => 0))), ((ma 18), .inl (cy 1, 12, .inl (fun _ => 0))), ((ma 19), .inl (cy 3, 12, .inl (fun _ => 0))), ((ma 20), .inl (cy 3, 8, .inl (fun _ => 0))), ((ma 21), .inl (cy 1, 8, .inl (fun _ => 0))), ((ma 22), .inl (cy 1, 8, .inl (fun _ => 0))), ((ma 23), .inl (cy 1, 8, .inl (fun _ => 0))), ((ma 24), .inl (cy 1, 8, .inl (fun _ => 0))), ((ma 33), .inl (cy 1, 600, .inl (fun _ => 0))), ((ma 68), .inl (cy 1, 8, .inl (fun _ => 0))), ((ma 69), .inl (cy 1, 8, .inl (fun _ => 0))), ((ma 70), .inl (cy 1, 8, .inl (fun _ => 0))), ((ma 73), .inl (cy 1, 241, .inl (fun _ => 0))), ((ma 74), .inl (cy 1, 241, .inl (fun _ => 0))), ((ma 75), .inl (cy 1, 241, .inl (upd (fun _ => 0) 0 1))), ((ma 93), .inl (cy 1, 1000, .inl (fun _ => 0))), ((ma 94), .inl (cy 3, 1001, .inl (fun _ => 0))), ((ma 95), .inl (cy 1, 1000, .inl (fun _ => 0))), ((ma 97), .inl (cy 1, 101, .inl (fun _ => 0))), ((ma 98), .inl (cy 1, 101, .inl (fun _ => 0))), ((ma 99), .inl (cy 1, 101, .inl (fun _ => 0))), ((ma 100), .inl (cy 1, 101, .inl (fun _ => 0)))] H := hP
  have hD : va_D A [((ma 200), mo_0 ma), ((ma 11), .inl (cy 3, 8, .inl (fun _ => 0))), ((ma 12), .inl (cy 1, 8, .inl (fun _ => 0))), ((ma 13), .inl (cy 1, 8, .inl (fun _ => 0))), ((ma 14), .inl (cy 3, 12, .inl (fun _ => 0))), ((ma 15), .inl (cy 1, 12, .inl (fun _ => 0))), ((ma 16), .inl (cy 1, 12, .inl (fun _ => 0))), ((ma 17), .inl (cy 1, 12, .inl (fun _ => 0))), ((ma 18), .inl (cy 1, 12, .inl (fun _ => 0))), ((ma 19), .inl (cy 3, 12, .inl (fun _ => 0))), ((ma 20), .inl (cy 3, 8, .inl (fun _ => 0))), ((ma 21), .inl (cy 1, 8, .inl (fun _ => 0))), ((ma 22), .inl (cy 1, 8, .inl (fun _ => 0))), ((ma 23), .inl (cy 1, 8, .inl (fun _ => 0))), ((ma 24), .inl (cy 1, 8, .inl (fun _ => 0))), ((ma 33), .inl (cy 1, 600, .inl (fun _ => 0))), ((ma 68), .inl (cy 1, 8, .inl (fun _ => 0))), ((ma 69), .inl (cy 1, 8, .inl (fun _ => 0))), ((ma 70), .inl (cy 1, 8, .inl (fun _ => 0))), ((ma 73), .inl (cy 1, 241, .inl (fun _ => 0))), ((ma 74), .inl (cy 1, 241, .inl (fun _ => 0))), ((ma 75), .inl (cy 1, 241, .inl (upd (fun _ => 0) 0 1))), ((ma 93), .inl (cy 1, 1000, .inl (fun _ => 0))), ((ma 94), .inl (cy 3, 1001, .inl (fun _ => 0))), ((ma 95), .inl (cy 1, 1000, .inl (fun _ => 0))), ((ma 97), .inl (cy 1, 101, .inl (fun _ => 0))), ((ma 98), .inl (cy 1, 101, .inl (fun _ => 0))), ((ma 99), .inl (cy 1, 101, .inl (fun _ => 0))), ((ma 100), .inl (cy 1, 101, .inl (fun _ => 0)))] := hD
  rcases hw with ⟨rfl, p_2⟩ | ⟨rfl, p_2⟩
  · refine lv_aload_n hx hb dL_law_434 rfl (lv_at hl 1 rfl) ?_
    refine lv_aload_n hx hb dL_law_435 rfl (lv_at hl 3 rfl) ?_
    refine lv_iload_n hx hb dL_law_436 rfl (lv_at hl 0 rfl) ?_
    refine lv_iconst (v := 1) hx hb dL_law_437 (by decide) ?_
    refine lv_iadd hx hb dL_law_438 ?_
    refine gp_ni 1 (by decide) ?_
    refine va_sld hx hb hX hbl hbA hS (by unfold vp_in; decide) dL_law_439 ?_
    refine gp_ni (xs 1) rfl ?_
    refine lv_aload_n hx hb dL_law_440 rfl (lv_at hl 3 rfl) ?_
    refine lv_iload_n hx hb dL_law_441 rfl (lv_at hl 0 rfl) ?_
    refine lv_iconst (v := 2) hx hb dL_law_442 (by decide) ?_
    refine lv_iadd hx hb dL_law_443 ?_
    refine gp_ni 2 (by decide) ?_
    refine va_sld hx hb hX hbl hbA hS (by unfold vp_in; decide) dL_law_444 ?_
    refine gp_ni (xs 2) rfl ?_
    refine lv_aload_n hx hb dL_law_445 rfl (lv_at hl 3 rfl) ?_
    refine lv_iload_n hx hb dL_law_446 rfl (lv_at hl 0 rfl) ?_
    refine lv_iconst (v := 3) hx hb dL_law_447 (by decide) ?_
    refine lv_iadd hx hb dL_law_448 ?_
    refine gp_ni 3 (by decide) ?_
    refine va_sld hx hb hX hbl hbA hS (by unfold vp_in; decide) dL_law_449 ?_
    refine gp_ni (xs 3) rfl ?_
    have hPc := hP.sub (ws' := [((ma 200), mo_0 ma), ((ma 11), .inl (cy 3, 8, .inl (fun _ => 0))), ((ma 12), .inl (cy 1, 8, .inl (fun _ => 0))), ((ma 13), .inl (cy 1, 8, .inl (fun _ => 0)))]) [0, 1, 2, 3] rfl
    have hDc := hD.sub (ws' := [((ma 200), mo_0 ma), ((ma 11), .inl (cy 3, 8, .inl (fun _ => 0))), ((ma 12), .inl (cy 1, 8, .inl (fun _ => 0))), ((ma 13), .inl (cy 1, 8, .inl (fun _ => 0)))]) [0, 1, 2, 3] (by decide) rfl
    have hFc := va_free (wc := [((ma 200), mo_0 ma), ((ma 11), .inl (cy 3, 8, .inl (fun _ => 0))), ((ma 12), .inl (cy 1, 8, .inl (fun _ => 0))), ((ma 13), .inl (cy 1, 8, .inl (fun _ => 0)))]) hD hS hA [0, 1, 2, 3] rfl
    refine va_calli (va_runV (As := [.int (xs 1), .int (xs 2), .int (xs 3)]) (rest := [.int 1]) ⟨hx, hb, hml, hown, hts⟩ (kX12_seat l D cy H.size ma (xs 1) (xs 2) (xs 3)) (cwV 3 hts gc_kX12_seat rfl rfl rfl (by decide +kernel) ⟨Nat.le_of_ble_eq_true rfl, Nat.le_of_ble_eq_true rfl⟩) (gp_preV (RX12, TX12, 104) 12 0 hPc hDc hK hN rfl rfl) rfl rfl hl.1 rfl (lv_room (Nat.le_of_ble_eq_true rfl)) dL_law_450 ⟨Nat.le_of_ble_eq_true rfl, Nat.le_of_ble_eq_true rfl⟩) hS (fun q _ h => hFc q h) hFc (fun r_3 u t H locs ht hvm hw hB hz1 hk1 hS => ?_)
    obtain ⟨hP, hD⟩ := gp_join (wr := []) (w1 := []) hP hD [0, 1, 2, 3] [] rfl rfl (by decide) (by decide) hk1 hFc ht hB
    have hP : va_P D vwCl [] H := hP
    have hD : va_D A [] := hD
    rcases hw with ⟨rfl, p_4⟩ | ⟨rfl, p_4⟩
    · refine lv_icmp_eq (tgt := 1364) hx hb dL_law_453 (by decide) (fun c_5 => ?_) (fun c_5 => absurd (by decide) c_5)
      refine lv_iinc (v := 7) (lv' := [(3, .int 7), (2, .ref (ma 200)), (1, .ref (xa 0)), (0, .ref b)]) hx hb dL_law_1364 hl (k := 0) rfl (by decide) (by decide) rfl (fun ls hl => ?_)
      refine lv_goto (tgt := 18) hx hb dL_law_1367 (by decide) ?_
      refine lv_iload_n hx hb dL_law_18 rfl (lv_at hl 0 rfl) ?_
      refine lv_aload_n hx hb dL_law_19 rfl (lv_at hl 3 rfl) ?_
      refine va_slen hx hb hX hbl hbA hS dL_law_20 ?_
      refine gp_ni 7 rfl ?_
      refine lv_bipush (v := 7) hx hb dL_law_21 (by decide) ?_
      refine lv_isub hx hb dL_law_23 ?_
      refine gp_ni 0 (by decide) ?_
      refine lv_icmp_gt (tgt := 1370) hx hb dL_law_24 (by decide) (fun c_6 => ?_) (fun c_6 => absurd (by decide) c_6)
      refine lv_iconst (v := 1) hx hb dL_law_1370 (by decide) ?_
      refine va_forget (fun q hq => hSA _ (hS.2.2 q hq)) ?_
      refine W.widen (k := 600000) (n := 7302250) (by decide) (by decide) ?_
      exact lw_ret hx hb hr hlocks dL_law_1371
    · exact absurd p_2 p_4
  · refine lv_aload_n hx hb dL_law_434 rfl (lv_at hl 1 rfl) ?_
    refine lv_aload_n hx hb dL_law_435 rfl (lv_at hl 3 rfl) ?_
    refine lv_iload_n hx hb dL_law_436 rfl (lv_at hl 0 rfl) ?_
    refine lv_iconst (v := 1) hx hb dL_law_437 (by decide) ?_
    refine lv_iadd hx hb dL_law_438 ?_
    refine gp_ni 1 (by decide) ?_
    refine va_sld hx hb hX hbl hbA hS (by unfold vp_in; decide) dL_law_439 ?_
    refine gp_ni (xs 1) rfl ?_
    refine lv_aload_n hx hb dL_law_440 rfl (lv_at hl 3 rfl) ?_
    refine lv_iload_n hx hb dL_law_441 rfl (lv_at hl 0 rfl) ?_
    refine lv_iconst (v := 2) hx hb dL_law_442 (by decide) ?_
    refine lv_iadd hx hb dL_law_443 ?_
    refine gp_ni 2 (by decide) ?_
    refine va_sld hx hb hX hbl hbA hS (by unfold vp_in; decide) dL_law_444 ?_
    refine gp_ni (xs 2) rfl ?_
    refine lv_aload_n hx hb dL_law_445 rfl (lv_at hl 3 rfl) ?_
    refine lv_iload_n hx hb dL_law_446 rfl (lv_at hl 0 rfl) ?_
    refine lv_iconst (v := 3) hx hb dL_law_447 (by decide) ?_
    refine lv_iadd hx hb dL_law_448 ?_
    refine gp_ni 3 (by decide) ?_
    refine va_sld hx hb hX hbl hbA hS (by unfold vp_in; decide) dL_law_449 ?_
    refine gp_ni (xs 3) rfl ?_
    have hPc := hP.sub (ws' := [((ma 200), mo_0 ma), ((ma 11), .inl (cy 3, 8, .inl (fun _ => 0))), ((ma 12), .inl (cy 1, 8, .inl (fun _ => 0))), ((ma 13), .inl (cy 1, 8, .inl (fun _ => 0)))]) [0, 1, 2, 3] rfl
    have hDc := hD.sub (ws' := [((ma 200), mo_0 ma), ((ma 11), .inl (cy 3, 8, .inl (fun _ => 0))), ((ma 12), .inl (cy 1, 8, .inl (fun _ => 0))), ((ma 13), .inl (cy 1, 8, .inl (fun _ => 0)))]) [0, 1, 2, 3] (by decide) rfl
    have hFc := va_free (wc := [((ma 200), mo_0 ma), ((ma 11), .inl (cy 3, 8, .inl (fun _ => 0))), ((ma 12), .inl (cy 1, 8, .inl (fun _ => 0))), ((ma 13), .inl (cy 1, 8, .inl (fun _ => 0)))]) hD hS hA [0, 1, 2, 3] rfl
    refine va_calli (va_runV (As := [.int (xs 1), .int (xs 2), .int (xs 3)]) (rest := [.int 0]) ⟨hx, hb, hml, hown, hts⟩ (kX12_seat l D cy H.size ma (xs 1) (xs 2) (xs 3)) (cwV 3 hts gc_kX12_seat rfl rfl rfl (by decide +kernel) ⟨Nat.le_of_ble_eq_true rfl, Nat.le_of_ble_eq_true rfl⟩) (gp_preV (RX12, TX12, 104) 12 0 hPc hDc hK hN rfl rfl) rfl rfl hl.1 rfl (lv_room (Nat.le_of_ble_eq_true rfl)) dL_law_450 ⟨Nat.le_of_ble_eq_true rfl, Nat.le_of_ble_eq_true rfl⟩) hS (fun q _ h => hFc q h) hFc (fun r_7 u t H locs ht hvm hw hB hz1 hk1 hS => ?_)
    obtain ⟨hP, hD⟩ := gp_join (wr := []) (w1 := []) hP hD [0, 1, 2, 3] [] rfl rfl (by decide) (by decide) hk1 hFc ht hB
    have hP : va_P D vwCl [] H := hP
    have hD : va_D A [] := hD
    rcases hw with ⟨rfl, p_8⟩ | ⟨rfl, p_8⟩
    · exact absurd p_8 p_2
    · refine lv_icmp_eq (tgt := 1364) hx hb dL_law_453 (by decide) (fun c_9 => ?_) (fun c_9 => absurd (by decide) c_9)
      refine lv_iinc (v := 7) (lv' := [(3, .int 7), (2, .ref (ma 200)), (1, .ref (xa 0)), (0, .ref b)]) hx hb dL_law_1364 hl (k := 0) rfl (by decide) (by decide) rfl (fun ls hl => ?_)
      refine lv_goto (tgt := 18) hx hb dL_law_1367 (by decide) ?_
      refine lv_iload_n hx hb dL_law_18 rfl (lv_at hl 0 rfl) ?_
      refine lv_aload_n hx hb dL_law_19 rfl (lv_at hl 3 rfl) ?_
      refine va_slen hx hb hX hbl hbA hS dL_law_20 ?_
      refine gp_ni 7 rfl ?_
      refine lv_bipush (v := 7) hx hb dL_law_21 (by decide) ?_
      refine lv_isub hx hb dL_law_23 ?_
      refine gp_ni 0 (by decide) ?_
      refine lv_icmp_gt (tgt := 1370) hx hb dL_law_24 (by decide) (fun c_10 => ?_) (fun c_10 => absurd (by decide) c_10)
      refine lv_iconst (v := 1) hx hb dL_law_1370 (by decide) ?_
      refine va_forget (fun q hq => hSA _ (hS.2.2 q hq)) ?_
      refine W.widen (k := 600000) (n := 7302250) (by decide) (by decide) ?_
      exact lw_ret hx hb hr hlocks dL_law_1371

set_option maxHeartbeats 4000000 in
set_option maxRecDepth 100000 in
theorem law_6 {p : Program} {e : Env} {s : State} {m : MethodId} {below : List Frame} {meth : Method} {c : Code} (l : Launch) {b : Nat} {xs : Nat → Int32} (C0 : lw_At p s m meth c b 7 xs) {D : va_G} {cy : Nat → ClassId} (hK : va_K D vwCl (gp_T cy) s) (hN : gp_N s) (xa ma : Nat → Nat) (fO : Nat → Option Nat) (hO : fO 0 = some (xa 6)) {A : Nat → Prop} (hAe : A = (fun q : Nat => s.heap.size ≤ q)) {H : Heap} {locs : List Loc} {ls : Array Slot} (hP : va_P D vwCl (lw_W cy xa ma fO) H) (hD : va_D A (lw_W cy xa ma fO)) (hS : va_S A s.heap H locs) (hl : lv_has ls 4 [(3, .int 0), (2, .ref (ma 200)), (1, .ref (xa 0)), (0, .ref b)]) : W p l e room_1 s m #[Value.ref b] below meth c H locs 153 14835 (lw_Z below #[Value.ref b] s) (F0 m 458 ls []) := by
  obtain ⟨hx, hb, hr, hml, hown, hts, hX, hbl, hlocks, hgv⟩ := id C0
  have hown : s.vm.findClass RL = some m.cls := hown
  have hA : ∀ q : Nat, s.heap.size ≤ q → A q := fun q h => by rw [hAe]; exact h
  have hbA : ¬ A b := by rw [hAe]; exact Nat.not_le.mpr hbl
  have hSA : ∀ q : Nat, A q → s.heap.size ≤ q := fun q h => by rw [hAe] at h; exact h
  refine lv_aload_n hx hb dL_law_458 rfl (lv_at hl 2 rfl) ?_
  refine lv_aload_n hx hb dL_law_459 rfl (lv_at hl 3 rfl) ?_
  refine lv_iload_n hx hb dL_law_460 rfl (lv_at hl 0 rfl) ?_
  refine lv_iconst (v := 1) hx hb dL_law_461 (by decide) ?_
  refine lv_iadd hx hb dL_law_462 ?_
  refine gp_ni 1 (by decide) ?_
  refine va_sld hx hb hX hbl hbA hS (by unfold vp_in; decide) dL_law_463 ?_
  refine gp_ni (xs 1) rfl ?_
  refine lv_aload_n hx hb dL_law_464 rfl (lv_at hl 3 rfl) ?_
  refine lv_iload_n hx hb dL_law_465 rfl (lv_at hl 0 rfl) ?_
  refine lv_iconst (v := 2) hx hb dL_law_466 (by decide) ?_
  refine lv_iadd hx hb dL_law_467 ?_
  refine gp_ni 2 (by decide) ?_
  refine va_sld hx hb hX hbl hbA hS (by unfold vp_in; decide) dL_law_468 ?_
  refine gp_ni (xs 2) rfl ?_
  refine lv_aload_n hx hb dL_law_469 rfl (lv_at hl 3 rfl) ?_
  refine lv_iload_n hx hb dL_law_470 rfl (lv_at hl 0 rfl) ?_
  refine lv_iconst (v := 3) hx hb dL_law_471 (by decide) ?_
  refine lv_iadd hx hb dL_law_472 ?_
  refine gp_ni 3 (by decide) ?_
  refine va_sld hx hb hX hbl hbA hS (by unfold vp_in; decide) dL_law_473 ?_
  refine gp_ni (xs 3) rfl ?_
  refine lv_aload_n hx hb dL_law_474 rfl (lv_at hl 3 rfl) ?_
  refine lv_iload_n hx hb dL_law_475 rfl (lv_at hl 0 rfl) ?_
  refine lv_iconst (v := 4) hx hb dL_law_476 (by decide) ?_
  refine lv_iadd hx hb dL_law_477 ?_
  refine gp_ni 4 (by decide) ?_
  refine va_sld hx hb hX hbl hbA hS (by unfold vp_in; decide) dL_law_478 ?_
  refine gp_ni (xs 4) rfl ?_
  refine lv_aload_n hx hb dL_law_479 rfl (lv_at hl 3 rfl) ?_
  refine lv_iload_n hx hb dL_law_480 rfl (lv_at hl 0 rfl) ?_
  refine lv_iconst (v := 5) hx hb dL_law_481 (by decide) ?_
  refine lv_iadd hx hb dL_law_482 ?_
  refine gp_ni 5 (by decide) ?_
  refine va_sld hx hb hX hbl hbA hS (by unfold vp_in; decide) dL_law_483 ?_
  refine gp_ni (xs 5) rfl ?_
  refine lv_aload_n hx hb dL_law_484 rfl (lv_at hl 3 rfl) ?_
  refine lv_iload_n hx hb dL_law_485 rfl (lv_at hl 0 rfl) ?_
  refine lv_bipush (v := 6) hx hb dL_law_486 (by decide) ?_
  refine lv_iadd hx hb dL_law_488 ?_
  refine gp_ni 6 (by decide) ?_
  refine va_sld hx hb hX hbl hbA hS (by unfold vp_in; decide) dL_law_489 ?_
  refine gp_ni (xs 6) rfl ?_
  refine lv_if_eq (tgt := 497) hx hb dL_law_490 (by decide) (fun c_1 => ?_) (fun c_1 => ?_)
  · refine lv_iconst (v := 0) hx hb dL_law_497 (by decide) ?_
    have hPc := hP.sub (ws' := [((xa 0), .inr (11, [.ref (xa 1), .ref (xa 3), .ref (xa 7), .ref (xa 11), .ref (xa 20), .ref (xa 24), .ref (xa 25), .ref (xa 29)])), ((xa 11), .inr (7, [.int (-50), .int 0, .int 50, .int 80, .int (-60), .int (-40), .int 60, .int (-40), .int 0, .int 4, .int 0, .ref (xa 12), .ref (xa 13), .ref (xa 14), .ref (xa 15), .ref (xa 16), .ref (xa 17), .ref (xa 18), .ref (xa 19)])), ((xa 15), .inl (cy 3, 12, .inl (fun _ => 0))), ((xa 16), .inl (cy 6, 12, .inr (.inr (.inr (.inr (fun i => if i < 12 then some (xa (100 + i)) else none)))))), ((xa 17), .inl (cy 3, 12, .inl (fun _ => 0))), ((xa 100), .inl (cy 1, 4, .inl (fun _ => 0))), ((xa 101), .inl (cy 1, 4, .inl (fun _ => 0))), ((xa 102), .inl (cy 1, 4, .inl (fun _ => 0))), ((xa 103), .inl (cy 1, 4, .inl (fun _ => 0))), ((xa 104), .inl (cy 1, 4, .inl (fun _ => 0))), ((xa 105), .inl (cy 1, 4, .inl (fun _ => 0))), ((xa 106), .inl (cy 1, 4, .inl (fun _ => 0))), ((xa 107), .inl (cy 1, 4, .inl (fun _ => 0))), ((xa 108), .inl (cy 1, 4, .inl (fun _ => 0))), ((xa 109), .inl (cy 1, 4, .inl (fun _ => 0))), ((xa 110), .inl (cy 1, 4, .inl (fun _ => 0))), ((xa 111), .inl (cy 1, 4, .inl (fun _ => 0)))]) [0, 11, 15, 16, 17, 35, 36, 37, 38, 39, 40, 41, 42, 43, 44, 45, 46] rfl
    have hDc := hD.sub (ws' := [((xa 0), .inr (11, [.ref (xa 1), .ref (xa 3), .ref (xa 7), .ref (xa 11), .ref (xa 20), .ref (xa 24), .ref (xa 25), .ref (xa 29)])), ((xa 11), .inr (7, [.int (-50), .int 0, .int 50, .int 80, .int (-60), .int (-40), .int 60, .int (-40), .int 0, .int 4, .int 0, .ref (xa 12), .ref (xa 13), .ref (xa 14), .ref (xa 15), .ref (xa 16), .ref (xa 17), .ref (xa 18), .ref (xa 19)])), ((xa 15), .inl (cy 3, 12, .inl (fun _ => 0))), ((xa 16), .inl (cy 6, 12, .inr (.inr (.inr (.inr (fun i => if i < 12 then some (xa (100 + i)) else none)))))), ((xa 17), .inl (cy 3, 12, .inl (fun _ => 0))), ((xa 100), .inl (cy 1, 4, .inl (fun _ => 0))), ((xa 101), .inl (cy 1, 4, .inl (fun _ => 0))), ((xa 102), .inl (cy 1, 4, .inl (fun _ => 0))), ((xa 103), .inl (cy 1, 4, .inl (fun _ => 0))), ((xa 104), .inl (cy 1, 4, .inl (fun _ => 0))), ((xa 105), .inl (cy 1, 4, .inl (fun _ => 0))), ((xa 106), .inl (cy 1, 4, .inl (fun _ => 0))), ((xa 107), .inl (cy 1, 4, .inl (fun _ => 0))), ((xa 108), .inl (cy 1, 4, .inl (fun _ => 0))), ((xa 109), .inl (cy 1, 4, .inl (fun _ => 0))), ((xa 110), .inl (cy 1, 4, .inl (fun _ => 0))), ((xa 111), .inl (cy 1, 4, .inl (fun _ => 0)))]) [0, 11, 15, 16, 17, 35, 36, 37, 38, 39, 40, 41, 42, 43, 44, 45, 46] (by decide) rfl
    have hFc := va_free (wc := [((xa 0), .inr (11, [.ref (xa 1), .ref (xa 3), .ref (xa 7), .ref (xa 11), .ref (xa 20), .ref (xa 24), .ref (xa 25), .ref (xa 29)])), ((xa 11), .inr (7, [.int (-50), .int 0, .int 50, .int 80, .int (-60), .int (-40), .int 60, .int (-40), .int 0, .int 4, .int 0, .ref (xa 12), .ref (xa 13), .ref (xa 14), .ref (xa 15), .ref (xa 16), .ref (xa 17), .ref (xa 18), .ref (xa 19)])), ((xa 15), .inl (cy 3, 12, .inl (fun _ => 0))), ((xa 16), .inl (cy 6, 12, .inr (.inr (.inr (.inr (fun i => if i < 12 then some (xa (100 + i)) else none)))))), ((xa 17), .inl (cy 3, 12, .inl (fun _ => 0))), ((xa 100), .inl (cy 1, 4, .inl (fun _ => 0))), ((xa 101), .inl (cy 1, 4, .inl (fun _ => 0))), ((xa 102), .inl (cy 1, 4, .inl (fun _ => 0))), ((xa 103), .inl (cy 1, 4, .inl (fun _ => 0))), ((xa 104), .inl (cy 1, 4, .inl (fun _ => 0))), ((xa 105), .inl (cy 1, 4, .inl (fun _ => 0))), ((xa 106), .inl (cy 1, 4, .inl (fun _ => 0))), ((xa 107), .inl (cy 1, 4, .inl (fun _ => 0))), ((xa 108), .inl (cy 1, 4, .inl (fun _ => 0))), ((xa 109), .inl (cy 1, 4, .inl (fun _ => 0))), ((xa 110), .inl (cy 1, 4, .inl (fun _ => 0))), ((xa 111), .inl (cy 1, 4, .inl (fun _ => 0)))]) hD hS hA [0, 11, 15, 16, 17, 35, 36, 37, 38, 39, 40, 41, 42, 43, 44, 45, 46] rfl
    refine va_calli (va_runV (As := [.int (xs 1), .int (xs 2), .int (xs 3), .int (xs 4), .int (xs 5), .int 0]) (rest := []) ⟨hx, hb, hml, hown, hts⟩ (kX11_wall l D cy H.size xa (xs 1) (xs 2) (xs 3) (xs 4) (xs 5) 0) (cwV 6 hts gc_kX11_wall rfl rfl rfl (by decide +kernel) ⟨Nat.le_of_ble_eq_true rfl, Nat.le_of_ble_eq_true rfl⟩) (gp_preV (RX11, TX11, 8) 11 0 hPc hDc hK hN rfl rfl) rfl rfl hl.1 rfl (lv_room (Nat.le_of_ble_eq_true rfl)) dL_law_498 ⟨Nat.le_of_ble_eq_true rfl, Nat.le_of_ble_eq_true rfl⟩) hS (fun q _ h => hFc q h) hFc (fun r_2 u t H locs ht hvm hw hB hz1 hk1 hS => ?_)
    obtain ⟨hP, hD⟩ := gp_join (wr := [((ma 200), mo_0 ma), ((ma 11), .inl (cy 3, 8, .inl (fun _ => 0))), ((ma 12), .inl (cy 1, 8, .inl (fun _ => 0))), ((ma 13), .inl (cy 1, 8, .inl (fun _ => 0))), ((ma 14), .inl (cy 3, 12, .inl (fun _ => 0))), ((ma 15), .inl (cy 1, 12, .inl (fun _ => 0))), ((ma 16), .inl (cy 1, 12, .inl (fun _ => 0))), ((ma 17), .inl (cy 1, 12, .inl (fun _ => 0))), ((ma 18), .inl (cy 1, 12, .inl (fun _ => 0))), ((ma 19), .inl (cy 3, 12, .inl (fun _ => 0))), ((ma 20), .inl (cy 3, 8, .inl (fun _ => 0))), ((ma 21), .inl (cy 1, 8, .inl (fun _ => 0))), ((ma 22), .inl (cy 1, 8, .inl (fun _ => 0))), ((ma 23), .inl (cy 1, 8, .inl (fun _ => 0))), ((ma 24), .inl (cy 1, 8, .inl (fun _ => 0))), ((ma 33), .inl (cy 1, 600, .inl (fun _ => 0))), ((ma 68), .inl (cy 1, 8, .inl (fun _ => 0))), ((ma 69), .inl (cy 1, 8, .inl (fun _ => 0))), ((ma 70), .inl (cy 1, 8, .inl (fun _ => 0))), ((ma 73), .inl (cy 1, 241, .inl (fun _ => 0))), ((ma 74), .inl (cy 1, 241, .inl (fun _ => 0))), ((ma 75), .inl (cy 1, 241, .inl (upd (fun _ => 0) 0 1))), ((ma 93), .inl (cy 1, 1000, .inl (fun _ => 0))), ((ma 94), .inl (cy 3, 1001, .inl (fun _ => 0))), ((ma 95), .inl (cy 1, 1000, .inl (fun _ => 0))), ((ma 97), .inl (cy 1, 101, .inl (fun _ => 0))), ((ma 98), .inl (cy 1, 101, .inl (fun _ => 0))), ((ma 99), .inl (cy 1, 101, .inl (fun _ => 0))), ((ma 100), .inl (cy 1, 101, .inl (fun _ => 0)))]) (w1 := []) hP hD [0, 11, 15, 16, 17, 35, 36, 37, 38, 39, 40, 41, 42, 43, 44, 45, 46] [67, 68, 69, 70, 71, 72, 73, 74, 75, 76, 77, 78, 79, 80, 81, 82, 83, 84, 85, 86, 87, 88, 89, 90, 91, 92, 93, 94, 95] rfl rfl (by decide) (by decide) hk1 hFc ht hB
    have hP : va_P D vwCl [((ma 200), mo_0 ma), ((ma 11), .inl (cy 3, 8, .inl (fun _ => 0))), ((ma 12), .inl (cy 1, 8, .inl (fun _ => 0))), ((ma 13), .inl (cy 1, 8, .inl (fun _ => 0))), ((ma 14), .inl (cy 3, 12, .inl (fun _ => 0))), ((ma 15), .inl (cy 1, 12, .inl (fun _ => 0))), ((ma 16), .inl (cy 1, 12, .inl (fun _ => 0))), ((ma 17), .inl (cy 1, 12, .inl (fun _ => 0))), ((ma 18), .inl (cy 1, 12, .inl (fun _ => 0))), ((ma 19), .inl (cy 3, 12, .inl (fun _ => 0))), ((ma 20), .inl (cy 3, 8, .inl (fun _ => 0))), ((ma 21), .inl (cy 1, 8, .inl (fun _ => 0))), ((ma 22), .inl (cy 1, 8, .inl (fun _ => 0))), ((ma 23), .inl (cy 1, 8, .inl (fun _ => 0))), ((ma 24), .inl (cy 1, 8, .inl (fun _ => 0))), ((ma 33), .inl (cy 1, 600, .inl (fun _ => 0))), ((ma 68), .inl (cy 1, 8, .inl (fun _ => 0))), ((ma 69), .inl (cy 1, 8, .inl (fun _ => 0))), ((ma 70), .inl (cy 1, 8, .inl (fun _ => 0))), ((ma 73), .inl (cy 1, 241, .inl (fun _ => 0))), ((ma 74), .inl (cy 1, 241, .inl (fun _ => 0))), ((ma 75), .inl (cy 1, 241, .inl (upd (fun _ => 0) 0 1))), ((ma 93), .inl (cy 1, 1000, .inl (fun _ => 0))), ((ma 94), .inl (cy 3, 1001, .inl (fun _ => 0))), ((ma 95), .inl (cy 1, 1000, .inl (fun _ => 0))), ((ma 97), .inl (cy 1, 101, .inl (fun _ => 0))), ((ma 98), .inl (cy 1, 101, .inl (fun _ => 0))), ((ma 99), .inl (cy 1, 101, .inl (fun _ => 0))), ((ma 100), .inl (cy 1, 101, .inl (fun _ => 0)))] H := hP
    have hD : va_D A [((ma 200), mo_0 ma), ((ma 11), .inl (cy 3, 8, .inl (fun _ => 0))), ((ma 12), .inl (cy 1, 8, .inl (fun _ => 0))), ((ma 13), .inl (cy 1, 8, .inl (fun _ => 0))), ((ma 14), .inl (cy 3, 12, .inl (fun _ => 0))), ((ma 15), .inl (cy 1, 12, .inl (fun _ => 0))), ((ma 16), .inl (cy 1, 12, .inl (fun _ => 0))), ((ma 17), .inl (cy 1, 12, .inl (fun _ => 0))), ((ma 18), .inl (cy 1, 12, .inl (fun _ => 0))), ((ma 19), .inl (cy 3, 12, .inl (fun _ => 0))), ((ma 20), .inl (cy 3, 8, .inl (fun _ => 0))), ((ma 21), .inl (cy 1, 8, .inl (fun _ => 0))), ((ma 22), .inl (cy 1, 8, .inl (fun _ => 0))), ((ma 23), .inl (cy 1, 8, .inl (fun _ => 0))), ((ma 24), .inl (cy 1, 8, .inl (fun _ => 0))), ((ma 33), .inl (cy 1, 600, .inl (fun _ => 0))), ((ma 68), .inl (cy 1, 8, .inl (fun _ => 0))), ((ma 69), .inl (cy 1, 8, .inl (fun _ => 0))), ((ma 70), .inl (cy 1, 8, .inl (fun _ => 0))), ((ma 73), .inl (cy 1, 241, .inl (fun _ => 0))), ((ma 74), .inl (cy 1, 241, .inl (fun _ => 0))), ((ma 75), .inl (cy 1, 241, .inl (upd (fun _ => 0) 0 1))), ((ma 93), .inl (cy 1, 1000, .inl (fun _ => 0))), ((ma 94), .inl (cy 3, 1001, .inl (fun _ => 0))), ((ma 95), .inl (cy 1, 1000, .inl (fun _ => 0))), ((ma 97), .inl (cy 1, 101, .inl (fun _ => 0))), ((ma 98), .inl (cy 1, 101, .inl (fun _ => 0))), ((ma 99), .inl (cy 1, 101, .inl (fun _ => 0))), ((ma 100), .inl (cy 1, 101, .inl (fun _ => 0)))] := hD
    rcases hw with ⟨rfl, p_3⟩ | ⟨rfl, p_3⟩
    · refine lv_aload_n hx hb dL_law_501 rfl (lv_at hl 1 rfl) ?_
      refine lv_aload_n hx hb dL_law_502 rfl (lv_at hl 3 rfl) ?_
      refine lv_iload_n hx hb dL_law_503 rfl (lv_at hl 0 rfl) ?_
      refine lv_iconst (v := 1) hx hb dL_law_504 (by decide) ?_
      refine lv_iadd hx hb dL_law_505 ?_
      refine gp_ni 1 (by decide) ?_
      refine va_sld hx hb hX hbl hbA hS (by unfold vp_in; decide) dL_law_506 ?_
      refine gp_ni (xs 1) rfl ?_
      refine lv_aload_n hx hb dL_law_507 rfl (lv_at hl 3 rfl) ?_
      refine lv_iload_n hx hb dL_law_508 rfl (lv_at hl 0 rfl) ?_
      refine lv_iconst (v := 2) hx hb dL_law_509 (by decide) ?_
      refine lv_iadd hx hb dL_law_510 ?_
      refine gp_ni 2 (by decide) ?_
      refine va_sld hx hb hX hbl hbA hS (by unfold vp_in; decide) dL_law_511 ?_
      refine gp_ni (xs 2) rfl ?_
      refine lv_aload_n hx hb dL_law_512 rfl (lv_at hl 3 rfl) ?_
      refine lv_iload_n hx hb dL_law_513 rfl (lv_at hl 0 rfl) ?_
      refine lv_iconst (v := 3) hx hb dL_law_514 (by decide) ?_
      refine lv_iadd hx hb dL_law_515 ?_
      refine gp_ni 3 (by decide) ?_
      refine va_sld hx hb hX hbl hbA hS (by unfold vp_in; decide) dL_law_516 ?_
      refine gp_ni (xs 3) rfl ?_
      refine lv_aload_n hx hb dL_law_517 rfl (lv_at hl 3 rfl) ?_
      refine lv_iload_n hx hb dL_law_518 rfl (lv_at hl 0 rfl) ?_
      refine lv_iconst (v := 4) hx hb dL_law_519 (by decide) ?_
      refine lv_iadd hx hb dL_law_520 ?_
      refine gp_ni 4 (by decide) ?_
      refine va_sld hx hb hX hbl hbA hS (by unfold vp_in; decide) dL_law_521 ?_
      refine gp_ni (xs 4) rfl ?_
      refine lv_aload_n hx hb dL_law_522 rfl (lv_at hl 3 rfl) ?_
      refine lv_iload_n hx hb dL_law_523 rfl (lv_at hl 0 rfl) ?_
      refine lv_iconst (v := 5) hx hb dL_law_524 (by decide) ?_
      refine lv_iadd hx hb dL_law_525 ?_
      refine gp_ni 5 (by decide) ?_
      refine va_sld hx hb hX hbl hbA hS (by unfold vp_in; decide) dL_law_526 ?_
      refine gp_ni (xs 5) rfl ?_
      refine lv_aload_n hx hb dL_law_527 rfl (lv_at hl 3 rfl) ?_
      refine lv_iload_n hx hb dL_law_528 rfl (lv_at hl 0 rfl) ?_
      refine lv_bipush (v := 6) hx hb dL_law_529 (by decide) ?_
      refine lv_iadd hx hb dL_law_531 ?_
      refine gp_ni 6 (by decide) ?_
      refine va_sld hx hb hX hbl hbA hS (by unfold vp_in; decide) dL_law_532 ?_
      refine gp_ni (xs 6) rfl ?_
      refine lv_if_eq (tgt := 540) hx hb dL_law_533 (by decide) (fun c_4 => ?_) (fun c_4 => absurd c_1 c_4)
      refine lv_iconst (v := 0) hx hb dL_law_540 (by decide) ?_
      have hPc := hP.sub (ws' := [((ma 200), mo_0 ma), ((ma 14), .inl (cy 3, 12, .inl (fun _ => 0))), ((ma 15), .inl (cy 1, 12, .inl (fun _ => 0))), ((ma 16), .inl (cy 1, 12, .inl (fun _ => 0))), ((ma 17), .inl (cy 1, 12, .inl (fun _ => 0))), ((ma 18), .inl (cy 1, 12, .inl (fun _ => 0))), ((ma 19), .inl (cy 3, 12, .inl (fun _ => 0)))]) [0, 4, 5, 6, 7, 8, 9] rfl
      have hDc := hD.sub (ws' := [((ma 200), mo_0 ma), ((ma 14), .inl (cy 3, 12, .inl (fun _ => 0))), ((ma 15), .inl (cy 1, 12, .inl (fun _ => 0))), ((ma 16), .inl (cy 1, 12, .inl (fun _ => 0))), ((ma 17), .inl (cy 1, 12, .inl (fun _ => 0))), ((ma 18), .inl (cy 1, 12, .inl (fun _ => 0))), ((ma 19), .inl (cy 3, 12, .inl (fun _ => 0)))]) [0, 4, 5, 6, 7, 8, 9] (by decide) rfl
      have hFc := va_free (wc := [((ma 200), mo_0 ma), ((ma 14), .inl (cy 3, 12, .inl (fun _ => 0))), ((ma 15), .inl (cy 1, 12, .inl (fun _ => 0))), ((ma 16), .inl (cy 1, 12, .inl (fun _ => 0))), ((ma 17), .inl (cy 1, 12, .inl (fun _ => 0))), ((ma 18), .inl (cy 1, 12, .inl (fun _ => 0))), ((ma 19), .inl (cy 3, 12, .inl (fun _ => 0)))]) hD hS hA [0, 4, 5, 6, 7, 8, 9] rfl
      refine va_calli (va_runV (As := [.int (xs 1), .int (xs 2), .int (xs 3), .int (xs 4), .int (xs 5), .int 0]) (rest := [.int 1]) ⟨hx, hb, hml, hown, hts⟩ (kX12_wall l D cy H.size ma (xs 1) (xs 2) (xs 3) (xs 4) (xs 5) 0) (cwV 6 hts gc_kX12_wall rfl rfl rfl (by decide +kernel) ⟨Nat.le_of_ble_eq_true rfl, Nat.le_of_ble_eq_true rfl⟩) (gp_preV (RX12, TX12, 104) 12 0 hPc hDc hK hN rfl rfl) rfl rfl hl.1 rfl (lv_room (Nat.le_of_ble_eq_true rfl)) dL_law_541 ⟨Nat.le_of_ble_eq_true rfl, Nat.le_of_ble_eq_true rfl⟩) hS (fun q _ h => hFc q h) hFc (fun r_5 u t H locs ht hvm hw hB hz1 hk1 hS => ?_)
      obtain ⟨hP, hD⟩ := gp_join (wr := []) (w1 := []) hP hD [0, 4, 5, 6, 7, 8, 9] [] rfl rfl (by decide) (by decide) hk1 hFc ht hB
      have hP : va_P D vwCl [] H := hP
      have hD : va_D A [] := hD
      rcases hw with ⟨rfl, p_6⟩ | ⟨rfl, p_6⟩
      · refine lv_icmp_eq (tgt := 1364) hx hb dL_law_544 (by decide) (fun c_7 => ?_) (fun c_7 => absurd (by decide) c_7)
        refine lv_iinc (v := 7) (lv' := [(3, .int 7), (2, .ref (ma 200)), (1, .ref (xa 0)), (0, .ref b)]) hx hb dL_law_1364 hl (k := 0) rfl (by decide) (by decide) rfl (fun ls hl => ?_)
        refine lv_goto (tgt := 18) hx hb dL_law_1367 (by decide) ?_
        refine lv_iload_n hx hb dL_law_18 rfl (lv_at hl 0 rfl) ?_
        refine lv_aload_n hx hb dL_law_19 rfl (lv_at hl 3 rfl) ?_
        refine va_slen hx hb hX hbl hbA hS dL_law_20 ?_
        refine gp_ni 7 rfl ?_
        refine lv_bipush (v := 7) hx hb dL_law_21 (by decide) ?_
        refine lv_isub hx hb dL_law_23 ?_
        refine gp_ni 0 (by decide) ?_
        refine lv_icmp_gt (tgt := 1370) hx hb dL_law_24 (by decide) (fun c_8 => ?_) (fun c_8 => absurd (by decide) c_8)
        refine lv_iconst (v := 1) hx hb dL_law_1370 (by decide) ?_
        refine va_forget (fun q hq => hSA _ (hS.2.2 q hq)) ?_
        refine W.widen (k := 600000) (n := 7302250) (by decide) (by decide) ?_
        exact lw_ret hx hb hr hlocks dL_law_1371
      · exact absurd p_3 p_6
    · refine lv_aload_n hx hb dL_law_501 rfl (lv_at hl 1 rfl) ?_
      refine lv_aload_n hx hb dL_law_502 rfl (lv_at hl 3 rfl) ?_
      refine lv_iload_n hx hb dL_law_503 rfl (lv_at hl 0 rfl) ?_
      refine lv_iconst (v := 1) hx hb dL_law_504 (by decide) ?_
      refine lv_iadd hx hb dL_law_505 ?_
      refine gp_ni 1 (by decide) ?_
      refine va_sld hx hb hX hbl hbA hS (by unfold vp_in; decide) dL_law_506 ?_
      refine gp_ni (xs 1) rfl ?_
      refine lv_aload_n hx hb dL_law_507 rfl (lv_at hl 3 rfl) ?_
      refine lv_iload_n hx hb dL_law_508 rfl (lv_at hl 0 rfl) ?_
      refine lv_iconst (v := 2) hx hb dL_law_509 (by decide) ?_
      refine lv_iadd hx hb dL_law_510 ?_
      refine gp_ni 2 (by decide) ?_
      refine va_sld hx hb hX hbl hbA hS (by unfold vp_in; decide) dL_law_511 ?_
      refine gp_ni (xs 2) rfl ?_
      refine lv_aload_n hx hb dL_law_512 rfl (lv_at hl 3 rfl) ?_
      refine lv_iload_n hx hb dL_law_513 rfl (lv_at hl 0 rfl) ?_
      refine lv_iconst (v := 3) hx hb dL_law_514 (by decide) ?_
      refine lv_iadd hx hb dL_law_515 ?_
      refine gp_ni 3 (by decide) ?_
      refine va_sld hx hb hX hbl hbA hS (by unfold vp_in; decide) dL_law_516 ?_
      refine gp_ni (xs 3) rfl ?_
      refine lv_aload_n hx hb dL_law_517 rfl (lv_at hl 3 rfl) ?_
      refine lv_iload_n hx hb dL_law_518 rfl (lv_at hl 0 rfl) ?_
      refine lv_iconst (v := 4) hx hb dL_law_519 (by decide) ?_
      refine lv_iadd hx hb dL_law_520 ?_
      refine gp_ni 4 (by decide) ?_
      refine va_sld hx hb hX hbl hbA hS (by unfold vp_in; decide) dL_law_521 ?_
      refine gp_ni (xs 4) rfl ?_
      refine lv_aload_n hx hb dL_law_522 rfl (lv_at hl 3 rfl) ?_
      refine lv_iload_n hx hb dL_law_523 rfl (lv_at hl 0 rfl) ?_
      refine lv_iconst (v := 5) hx hb dL_law_524 (by decide) ?_
      refine lv_iadd hx hb dL_law_525 ?_
      refine gp_ni 5 (by decide) ?_
      refine va_sld hx hb hX hbl hbA hS (by unfold vp_in; decide) dL_law_526 ?_
      refine gp_ni (xs 5) rfl ?_
      refine lv_aload_n hx hb dL_law_527 rfl (lv_at hl 3 rfl) ?_
      refine lv_iload_n hx hb dL_law_528 rfl (lv_at hl 0 rfl) ?_
      refine lv_bipush (v := 6) hx hb dL_law_529 (by decide) ?_
      refine lv_iadd hx hb dL_law_531 ?_
      refine gp_ni 6 (by decide) ?_
      refine va_sld hx hb hX hbl hbA hS (by unfold vp_in; decide) dL_law_532 ?_
      refine gp_ni (xs 6) rfl ?_
      refine lv_if_eq (tgt := 540) hx hb dL_law_533 (by decide) (fun c_9 => ?_) (fun c_9 => absurd c_1 c_9)
      refine lv_iconst (v := 0) hx hb dL_law_540 (by decide) ?_
      have hPc := hP.sub (ws' := [((ma 200), mo_0 ma), ((ma 14), .inl (cy 3, 12, .inl (fun _ => 0))), ((ma 15), .inl (cy 1, 12, .inl (fun _ => 0))), ((ma 16), .inl (cy 1, 12, .inl (fun _ => 0))), ((ma 17), .inl (cy 1, 12, .inl (fun _ => 0))), ((ma 18), .inl (cy 1, 12, .inl (fun _ => 0))), ((ma 19), .inl (cy 3, 12, .inl (fun _ => 0)))]) [0, 4, 5, 6, 7, 8, 9] rfl
      have hDc := hD.sub (ws' := [((ma 200), mo_0 ma), ((ma 14), .inl (cy 3, 12, .inl (fun _ => 0))), ((ma 15), .inl (cy 1, 12, .inl (fun _ => 0))), ((ma 16), .inl (cy 1, 12, .inl (fun _ => 0))), ((ma 17), .inl (cy 1, 12, .inl (fun _ => 0))), ((ma 18), .inl (cy 1, 12, .inl (fun _ => 0))), ((ma 19), .inl (cy 3, 12, .inl (fun _ => 0)))]) [0, 4, 5, 6, 7, 8, 9] (by decide) rfl
      have hFc := va_free (wc := [((ma 200), mo_0 ma), ((ma 14), .inl (cy 3, 12, .inl (fun _ => 0))), ((ma 15), .inl (cy 1, 12, .inl (fun _ => 0))), ((ma 16), .inl (cy 1, 12, .inl (fun _ => 0))), ((ma 17), .inl (cy 1, 12, .inl (fun _ => 0))), ((ma 18), .inl (cy 1, 12, .inl (fun _ => 0))), ((ma 19), .inl (cy 3, 12, .inl (fun _ => 0)))]) hD hS hA [0, 4, 5, 6, 7, 8, 9] rfl
      refine va_calli (va_runV (As := [.int (xs 1), .int (xs 2), .int (xs 3), .int (xs 4), .int (xs 5), .int 0]) (rest := [.int 0]) ⟨hx, hb, hml, hown, hts⟩ (kX12_wall l D cy H.size ma (xs 1) (xs 2) (xs 3) (xs 4) (xs 5) 0) (cwV 6 hts gc_kX12_wall rfl rfl rfl (by decide +kernel) ⟨Nat.le_of_ble_eq_true rfl, Nat.le_of_ble_eq_true rfl⟩) (gp_preV (RX12, TX12, 104) 12 0 hPc hDc hK hN rfl rfl) rfl rfl hl.1 rfl (lv_room (Nat.le_of_ble_eq_true rfl)) dL_law_541 ⟨Nat.le_of_ble_eq_true rfl, Nat.le_of_ble_eq_true rfl⟩) hS (fun q _ h => hFc q h) hFc (fun r_10 u t H locs ht hvm hw hB hz1 hk1 hS => ?_)
      obtain ⟨hP, hD⟩ := gp_join (wr := []) (w1 := []) hP hD [0, 4, 5, 6, 7, 8, 9] [] rfl rfl (by decide) (by decide) hk1 hFc ht hB
      have hP : va_P D vwCl [] H := hP
      have hD : va_D A [] := hD
      rcases hw with ⟨rfl, p_11⟩ | ⟨rfl, p_11⟩
      · exact absurd p_11 p_3
      · refine lv_icmp_eq (tgt := 1364) hx hb dL_law_544 (by decide) (fun c_12 => ?_) (fun c_12 => absurd (by decide) c_12)
        refine lv_iinc (v := 7) (lv' := [(3, .int 7), (2, .ref (ma 200)), (1, .ref (xa 0)), (0, .ref b)]) hx hb dL_law_1364 hl (k := 0) rfl (by decide) (by decide) rfl (fun ls hl => ?_)
        refine lv_goto (tgt := 18) hx hb dL_law_1367 (by decide) ?_
        refine lv_iload_n hx hb dL_law_18 rfl (lv_at hl 0 rfl) ?_
        refine lv_aload_n hx hb dL_law_19 rfl (lv_at hl 3 rfl) ?_
        refine va_slen hx hb hX hbl hbA hS dL_law_20 ?_
        refine gp_ni 7 rfl ?_
        refine lv_bipush (v := 7) hx hb dL_law_21 (by decide) ?_
        refine lv_isub hx hb dL_law_23 ?_
        refine gp_ni 0 (by decide) ?_
        refine lv_icmp_gt (tgt := 1370) hx hb dL_law_24 (by decide) (fun c_13 => ?_) (fun c_13 => absurd (by decide) c_13)
        refine lv_iconst (v := 1) hx hb dL_law_1370 (by decide) ?_
        refine va_forget (fun q hq => hSA _ (hS.2.2 q hq)) ?_
        refine W.widen (k := 600000) (n := 7302250) (by decide) (by decide) ?_
        exact lw_ret hx hb hr hlocks dL_law_1371
  · refine lv_iconst (v := 1) hx hb dL_law_493 (by decide) ?_
    refine lv_goto (tgt := 498) hx hb dL_law_494 (by decide) ?_
    have hPc := hP.sub (ws' := [((xa 0), .inr (11, [.ref (xa 1), .ref (xa 3), .ref (xa 7), .ref (xa 11), .ref (xa 20), .ref (xa 24), .ref (xa 25), .ref (xa 29)])), ((xa 11), .inr (7, [.int (-50), .int 0, .int 50, .int 80, .int (-60), .int (-40), .int 60, .int (-40), .int 0, .int 4, .int 0, .ref (xa 12), .ref (xa 13), .ref (xa 14), .ref (xa 15), .ref (xa 16), .ref (xa 17), .ref (xa 18), .ref (xa 19)])), ((xa 15), .inl (cy 3, 12, .inl (fun _ => 0))), ((xa 16), .inl (cy 6, 12, .inr (.inr (.inr (.inr (fun i => if i < 12 then some (xa (100 + i)) else none)))))), ((xa 17), .inl (cy 3, 12, .inl (fun _ => 0))), ((xa 100), .inl (cy 1, 4, .inl (fun _ => 0))), ((xa 101), .inl (cy 1, 4, .inl (fun _ => 0))), ((xa 102), .inl (cy 1, 4, .inl (fun _ => 0))), ((xa 103), .inl (cy 1, 4, .inl (fun _ => 0))), ((xa 104), .inl (cy 1, 4, .inl (fun _ => 0))), ((xa 105), .inl (cy 1, 4, .inl (fun _ => 0))), ((xa 106), .inl (cy 1, 4, .inl (fun _ => 0))), ((xa 107), .inl (cy 1, 4, .inl (fun _ => 0))), ((xa 108), .inl (cy 1, 4, .inl (fun _ => 0))), ((xa 109), .inl (cy 1, 4, .inl (fun _ => 0))), ((xa 110), .inl (cy 1, 4, .inl (fun _ => 0))), ((xa 111), .inl (cy 1, 4, .inl (fun _ => 0)))]) [0, 11, 15, 16, 17, 35, 36, 37, 38, 39, 40, 41, 42, 43, 44, 45, 46] rfl
    have hDc := hD.sub (ws' := [((xa 0), .inr (11, [.ref (xa 1), .ref (xa 3), .ref (xa 7), .ref (xa 11), .ref (xa 20), .ref (xa 24), .ref (xa 25), .ref (xa 29)])), ((xa 11), .inr (7, [.int (-50), .int 0, .int 50, .int 80, .int (-60), .int (-40), .int 60, .int (-40), .int 0, .int 4, .int 0, .ref (xa 12), .ref (xa 13), .ref (xa 14), .ref (xa 15), .ref (xa 16), .ref (xa 17), .ref (xa 18), .ref (xa 19)])), ((xa 15), .inl (cy 3, 12, .inl (fun _ => 0))), ((xa 16), .inl (cy 6, 12, .inr (.inr (.inr (.inr (fun i => if i < 12 then some (xa (100 + i)) else none)))))), ((xa 17), .inl (cy 3, 12, .inl (fun _ => 0))), ((xa 100), .inl (cy 1, 4, .inl (fun _ => 0))), ((xa 101), .inl (cy 1, 4, .inl (fun _ => 0))), ((xa 102), .inl (cy 1, 4, .inl (fun _ => 0))), ((xa 103), .inl (cy 1, 4, .inl (fun _ => 0))), ((xa 104), .inl (cy 1, 4, .inl (fun _ => 0))), ((xa 105), .inl (cy 1, 4, .inl (fun _ => 0))), ((xa 106), .inl (cy 1, 4, .inl (fun _ => 0))), ((xa 107), .inl (cy 1, 4, .inl (fun _ => 0))), ((xa 108), .inl (cy 1, 4, .inl (fun _ => 0))), ((xa 109), .inl (cy 1, 4, .inl (fun _ => 0))), ((xa 110), .inl (cy 1, 4, .inl (fun _ => 0))), ((xa 111), .inl (cy 1, 4, .inl (fun _ => 0)))]) [0, 11, 15, 16, 17, 35, 36, 37, 38, 39, 40, 41, 42, 43, 44, 45, 46] (by decide) rfl
    have hFc := va_free (wc := [((xa 0), .inr (11, [.ref (xa 1), .ref (xa 3), .ref (xa 7), .ref (xa 11), .ref (xa 20), .ref (xa 24), .ref (xa 25), .ref (xa 29)])), ((xa 11), .inr (7, [.int (-50), .int 0, .int 50, .int 80, .int (-60), .int (-40), .int 60, .int (-40), .int 0, .int 4, .int 0, .ref (xa 12), .ref (xa 13), .ref (xa 14), .ref (xa 15), .ref (xa 16), .ref (xa 17), .ref (xa 18), .ref (xa 19)])), ((xa 15), .inl (cy 3, 12, .inl (fun _ => 0))), ((xa 16), .inl (cy 6, 12, .inr (.inr (.inr (.inr (fun i => if i < 12 then some (xa (100 + i)) else none)))))), ((xa 17), .inl (cy 3, 12, .inl (fun _ => 0))), ((xa 100), .inl (cy 1, 4, .inl (fun _ => 0))), ((xa 101), .inl (cy 1, 4, .inl (fun _ => 0))), ((xa 102), .inl (cy 1, 4, .inl (fun _ => 0))), ((xa 103), .inl (cy 1, 4, .inl (fun _ => 0))), ((xa 104), .inl (cy 1, 4, .inl (fun _ => 0))), ((xa 105), .inl (cy 1, 4, .inl (fun _ => 0))), ((xa 106), .inl (cy 1, 4, .inl (fun _ => 0))), ((xa 107), .inl (cy 1, 4, .inl (fun _ => 0))), ((xa 108), .inl (cy 1, 4, .inl (fun _ => 0))), ((xa 109), .inl (cy 1, 4, .inl (fun _ => 0))), ((xa 110), .inl (cy 1, 4, .inl (fun _ => 0))), ((xa 111), .inl (cy 1, 4, .inl (fun _ => 0)))]) hD hS hA [0, 11, 15, 16, 17, 35, 36, 37, 38, 39, 40, 41, 42, 43, 44, 45, 46] rfl
    refine va_calli (va_runV (As := [.int (xs 1), .int (xs 2), .int (xs 3), .int (xs 4), .int (xs 5), .int 1]) (rest := []) ⟨hx, hb, hml, hown, hts⟩ (kX11_wall l D cy H.size xa (xs 1) (xs 2) (xs 3) (xs 4) (xs 5) 1) (cwV 6 hts gc_kX11_wall rfl rfl rfl (by decide +kernel) ⟨Nat.le_of_ble_eq_true rfl, Nat.le_of_ble_eq_true rfl⟩) (gp_preV (RX11, TX11, 8) 11 0 hPc hDc hK hN rfl rfl) rfl rfl hl.1 rfl (lv_room (Nat.le_of_ble_eq_true rfl)) dL_law_498 ⟨Nat.le_of_ble_eq_true rfl, Nat.le_of_ble_eq_true rfl⟩) hS (fun q _ h => hFc q h) hFc (fun r_14 u t H locs ht hvm hw hB hz1 hk1 hS => ?_)
    obtain ⟨hP, hD⟩ := gp_join (wr := [((ma 200), mo_0 ma), ((ma 11), .inl (cy 3, 8, .inl (fun _ => 0))), ((ma 12), .inl (cy 1, 8, .inl (fun _ => 0))), ((ma 13), .inl (cy 1, 8, .inl (fun _ => 0))), ((ma 14), .inl (cy 3, 12, .inl (fun _ => 0))), ((ma 15), .inl (cy 1, 12, .inl (fun _ => 0))), ((ma 16), .inl (cy 1, 12, .inl (fun _ => 0))), ((ma 17), .inl (cy 1, 12, .inl (fun _ => 0))), ((ma 18), .inl (cy 1, 12, .inl (fun _ => 0))), ((ma 19), .inl (cy 3, 12, .inl (fun _ => 0))), ((ma 20), .inl (cy 3, 8, .inl (fun _ => 0))), ((ma 21), .inl (cy 1, 8, .inl (fun _ => 0))), ((ma 22), .inl (cy 1, 8, .inl (fun _ => 0))), ((ma 23), .inl (cy 1, 8, .inl (fun _ => 0))), ((ma 24), .inl (cy 1, 8, .inl (fun _ => 0))), ((ma 33), .inl (cy 1, 600, .inl (fun _ => 0))), ((ma 68), .inl (cy 1, 8, .inl (fun _ => 0))), ((ma 69), .inl (cy 1, 8, .inl (fun _ => 0))), ((ma 70), .inl (cy 1, 8, .inl (fun _ => 0))), ((ma 73), .inl (cy 1, 241, .inl (fun _ => 0))), ((ma 74), .inl (cy 1, 241, .inl (fun _ => 0))), ((ma 75), .inl (cy 1, 241, .inl (upd (fun _ => 0) 0 1))), ((ma 93), .inl (cy 1, 1000, .inl (fun _ => 0))), ((ma 94), .inl (cy 3, 1001, .inl (fun _ => 0))), ((ma 95), .inl (cy 1, 1000, .inl (fun _ => 0))), ((ma 97), .inl (cy 1, 101, .inl (fun _ => 0))), ((ma 98), .inl (cy 1, 101, .inl (fun _ => 0))), ((ma 99), .inl (cy 1, 101, .inl (fun _ => 0))), ((ma 100), .inl (cy 1, 101, .inl (fun _ => 0)))]) (w1 := []) hP hD [0, 11, 15, 16, 17, 35, 36, 37, 38, 39, 40, 41, 42, 43, 44, 45, 46] [67, 68, 69, 70, 71, 72, 73, 74, 75, 76, 77, 78, 79, 80, 81, 82, 83, 84, 85, 86, 87, 88, 89, 90, 91, 92, 93, 94, 95] rfl rfl (by decide) (by decide) hk1 hFc ht hB
    have hP : va_P D vwCl [((ma 200), mo_0 ma), ((ma 11), .inl (cy 3, 8, .inl (fun _ => 0))), ((ma 12), .inl (cy 1, 8, .inl (fun _ => 0))), ((ma 13), .inl (cy 1, 8, .inl (fun _ => 0))), ((ma 14), .inl (cy 3, 12, .inl (fun _ => 0))), ((ma 15), .inl (cy 1, 12, .inl (fun _ => 0))), ((ma 16), .inl (cy 1, 12, .inl (fun _ => 0))), ((ma 17), .inl (cy 1, 12, .inl (fun _ => 0))), ((ma 18), .inl (cy 1, 12, .inl (fun _ => 0))), ((ma 19), .inl (cy 3, 12, .inl (fun _ => 0))), ((ma 20), .inl (cy 3, 8, .inl (fun _ => 0))), ((ma 21), .inl (cy 1, 8, .inl (fun _ => 0))), ((ma 22), .inl (cy 1, 8, .inl (fun _ => 0))), ((ma 23), .inl (cy 1, 8, .inl (fun _ => 0))), ((ma 24), .inl (cy 1, 8, .inl (fun _ => 0))), ((ma 33), .inl (cy 1, 600, .inl (fun _ => 0))), ((ma 68), .inl (cy 1, 8, .inl (fun _ => 0))), ((ma 69), .inl (cy 1, 8, .inl (fun _ => 0))), ((ma 70), .inl (cy 1, 8, .inl (fun _ => 0))), ((ma 73), .inl (cy 1, 241, .inl (fun _ => 0))), ((ma 74), .inl (cy 1, 241, .inl (fun _ => 0))), ((ma 75), .inl (cy 1, 241, .inl (upd (fun _ => 0) 0 1))), ((ma 93), .inl (cy 1, 1000, .inl (fun _ => 0))), ((ma 94), .inl (cy 3, 1001, .inl (fun _ => 0))), ((ma 95), .inl (cy 1, 1000, .inl (fun _ => 0))), ((ma 97), .inl (cy 1, 101, .inl (fun _ => 0))), ((ma 98), .inl (cy 1, 101, .inl (fun _ => 0))), ((ma 99), .inl (cy 1, 101, .inl (fun _ => 0))), ((ma 100), .inl (cy 1, 101, .inl (fun _ => 0)))] H := hP
    have hD : va_D A [((ma 200), mo_0 ma), ((ma 11), .inl (cy 3, 8, .inl (fun _ => 0))), ((ma 12), .inl (cy 1, 8, .inl (fun _ => 0))), ((ma 13), .inl (cy 1, 8, .inl (fun _ => 0))), ((ma 14), .inl (cy 3, 12, .inl (fun _ => 0))), ((ma 15), .inl (cy 1, 12, .inl (fun _ => 0))), ((ma 16), .inl (cy 1, 12, .inl (fun _ => 0))), ((ma 17), .inl (cy 1, 12, .inl (fun _ => 0))), ((ma 18), .inl (cy 1, 12, .inl (fun _ => 0))), ((ma 19), .inl (cy 3, 12, .inl (fun _ => 0))), ((ma 20), .inl (cy 3, 8, .inl (fun _ => 0))), ((ma 21), .inl (cy 1, 8, .inl (fun _ => 0))), ((ma 22), .inl (cy 1, 8, .inl (fun _ => 0))), ((ma 23), .inl (cy 1, 8, .inl (fun _ => 0))), ((ma 24), .inl (cy 1, 8, .inl (fun _ => 0))), ((ma 33), .inl (cy 1, 600, .inl (fun _ => 0))), ((ma 68), .inl (cy 1, 8, .inl (fun _ => 0))), ((ma 69), .inl (cy 1, 8, .inl (fun _ => 0))), ((ma 70), .inl (cy 1, 8, .inl (fun _ => 0))), ((ma 73), .inl (cy 1, 241, .inl (fun _ => 0))), ((ma 74), .inl (cy 1, 241, .inl (fun _ => 0))), ((ma 75), .inl (cy 1, 241, .inl (upd (fun _ => 0) 0 1))), ((ma 93), .inl (cy 1, 1000, .inl (fun _ => 0))), ((ma 94), .inl (cy 3, 1001, .inl (fun _ => 0))), ((ma 95), .inl (cy 1, 1000, .inl (fun _ => 0))), ((ma 97), .inl (cy 1, 101, .inl (fun _ => 0))), ((ma 98), .inl (cy 1, 101, .inl (fun _ => 0))), ((ma 99), .inl (cy 1, 101, .inl (fun _ => 0))), ((ma 100), .inl (cy 1, 101, .inl (fun _ => 0)))] := hD
    rcases hw with ⟨rfl, p_15⟩ | ⟨rfl, p_15⟩
    · refine lv_aload_n hx hb dL_law_501 rfl (lv_at hl 1 rfl) ?_
      refine lv_aload_n hx hb dL_law_502 rfl (lv_at hl 3 rfl) ?_
      refine lv_iload_n hx hb dL_law_503 rfl (lv_at hl 0 rfl) ?_
      refine lv_iconst (v := 1) hx hb dL_law_504 (by decide) ?_
      refine lv_iadd hx hb dL_law_505 ?_
      refine gp_ni 1 (by decide) ?_
      refine va_sld hx hb hX hbl hbA hS (by unfold vp_in; decide) dL_law_506 ?_
      refine gp_ni (xs 1) rfl ?_
      refine lv_aload_n hx hb dL_law_507 rfl (lv_at hl 3 rfl) ?_
      refine lv_iload_n hx hb dL_law_508 rfl (lv_at hl 0 rfl) ?_
      refine lv_iconst (v := 2) hx hb dL_law_509 (by decide) ?_
      refine lv_iadd hx hb dL_law_510 ?_
      refine gp_ni 2 (by decide) ?_
      refine va_sld hx hb hX hbl hbA hS (by unfold vp_in; decide) dL_law_511 ?_
      refine gp_ni (xs 2) rfl ?_
      refine lv_aload_n hx hb dL_law_512 rfl (lv_at hl 3 rfl) ?_
      refine lv_iload_n hx hb dL_law_513 rfl (lv_at hl 0 rfl) ?_
      refine lv_iconst (v := 3) hx hb dL_law_514 (by decide) ?_
      refine lv_iadd hx hb dL_law_515 ?_
      refine gp_ni 3 (by decide) ?_
      refine va_sld hx hb hX hbl hbA hS (by unfold vp_in; decide) dL_law_516 ?_
      refine gp_ni (xs 3) rfl ?_
      refine lv_aload_n hx hb dL_law_517 rfl (lv_at hl 3 rfl) ?_
      refine lv_iload_n hx hb dL_law_518 rfl (lv_at hl 0 rfl) ?_
      refine lv_iconst (v := 4) hx hb dL_law_519 (by decide) ?_
      refine lv_iadd hx hb dL_law_520 ?_
      refine gp_ni 4 (by decide) ?_
      refine va_sld hx hb hX hbl hbA hS (by unfold vp_in; decide) dL_law_521 ?_
      refine gp_ni (xs 4) rfl ?_
      refine lv_aload_n hx hb dL_law_522 rfl (lv_at hl 3 rfl) ?_
      refine lv_iload_n hx hb dL_law_523 rfl (lv_at hl 0 rfl) ?_
      refine lv_iconst (v := 5) hx hb dL_law_524 (by decide) ?_
      refine lv_iadd hx hb dL_law_525 ?_
      refine gp_ni 5 (by decide) ?_
      refine va_sld hx hb hX hbl hbA hS (by unfold vp_in; decide) dL_law_526 ?_
      refine gp_ni (xs 5) rfl ?_
      refine lv_aload_n hx hb dL_law_527 rfl (lv_at hl 3 rfl) ?_
      refine lv_iload_n hx hb dL_law_528 rfl (lv_at hl 0 rfl) ?_
      refine lv_bipush (v := 6) hx hb dL_law_529 (by decide) ?_
      refine lv_iadd hx hb dL_law_531 ?_
      refine gp_ni 6 (by decide) ?_
      refine va_sld hx hb hX hbl hbA hS (by unfold vp_in; decide) dL_law_532 ?_
      refine gp_ni (xs 6) rfl ?_
      refine lv_if_eq (tgt := 540) hx hb dL_law_533 (by decide) (fun c_16 => absurd c_16 c_1) (fun c_16 => ?_)
      refine lv_iconst (v := 1) hx hb dL_law_536 (by decide) ?_
      refine lv_goto (tgt := 541) hx hb dL_law_537 (by decide) ?_
      have hPc := hP.sub (ws' := [((ma 200), mo_0 ma), ((ma 14), .inl (cy 3, 12, .inl (fun _ => 0))), ((ma 15), .inl (cy 1, 12, .inl (fun _ => 0))), ((ma 16), .inl (cy 1, 12, .inl (fun _ => 0))), ((ma 17), .inl (cy 1, 12, .inl (fun _ => 0))), ((ma 18), .inl (cy 1, 12, .inl (fun _ => 0))), ((ma 19), .inl (cy 3, 12, .inl (fun _ => 0)))]) [0, 4, 5, 6, 7, 8, 9] rfl
      have hDc := hD.sub (ws' := [((ma 200), mo_0 ma), ((ma 14), .inl (cy 3, 12, .inl (fun _ => 0))), ((ma 15), .inl (cy 1, 12, .inl (fun _ => 0))), ((ma 16), .inl (cy 1, 12, .inl (fun _ => 0))), ((ma 17), .inl (cy 1, 12, .inl (fun _ => 0))), ((ma 18), .inl (cy 1, 12, .inl (fun _ => 0))), ((ma 19), .inl (cy 3, 12, .inl (fun _ => 0)))]) [0, 4, 5, 6, 7, 8, 9] (by decide) rfl
      have hFc := va_free (wc := [((ma 200), mo_0 ma), ((ma 14), .inl (cy 3, 12, .inl (fun _ => 0))), ((ma 15), .inl (cy 1, 12, .inl (fun _ => 0))), ((ma 16), .inl (cy 1, 12, .inl (fun _ => 0))), ((ma 17), .inl (cy 1, 12, .inl (fun _ => 0))), ((ma 18), .inl (cy 1, 12, .inl (fun _ => 0))), ((ma 19), .inl (cy 3, 12, .inl (fun _ => 0)))]) hD hS hA [0, 4, 5, 6, 7, 8, 9] rfl
      refine va_calli (va_runV (As := [.int (xs 1), .int (xs 2), .int (xs 3), .int (xs 4), .int (xs 5), .int 1]) (rest := [.int 1]) ⟨hx, hb, hml, hown, hts⟩ (kX12_wall l D cy H.size ma (xs 1) (xs 2) (xs 3) (xs 4) (xs 5) 1) (cwV 6 hts gc_kX12_wall rfl rfl rfl (by decide +kernel) ⟨Nat.le_of_ble_eq_true rfl, Nat.le_of_ble_eq_true rfl⟩) (gp_preV (RX12, TX12, 104) 12 0 hPc hDc hK hN rfl rfl) rfl rfl hl.1 rfl (lv_room (Nat.le_of_ble_eq_true rfl)) dL_law_541 ⟨Nat.le_of_ble_eq_true rfl, Nat.le_of_ble_eq_true rfl⟩) hS (fun q _ h => hFc q h) hFc (fun r_17 u t H locs ht hvm hw hB hz1 hk1 hS => ?_)
      obtain ⟨hP, hD⟩ := gp_join (wr := []) (w1 := []) hP hD [0, 4, 5, 6, 7, 8, 9] [] rfl rfl (by decide) (by decide) hk1 hFc ht hB
      have hP : va_P D vwCl [] H := hP
      have hD : va_D A [] := hD
      rcases hw with ⟨rfl, p_18⟩ | ⟨rfl, p_18⟩
      · refine lv_icmp_eq (tgt := 1364) hx hb dL_law_544 (by decide) (fun c_19 => ?_) (fun c_19 => absurd (by decide) c_19)
        refine lv_iinc (v := 7) (lv' := [(3, .int 7), (2, .ref (ma 200)), (1, .ref (xa 0)), (0, .ref b)]) hx hb dL_law_1364 hl (k := 0) rfl (by decide) (by decide) rfl (fun ls hl => ?_)
        refine lv_goto (tgt := 18) hx hb dL_law_1367 (by decide) ?_
        refine lv_iload_n hx hb dL_law_18 rfl (lv_at hl 0 rfl) ?_
        refine lv_aload_n hx hb dL_law_19 rfl (lv_at hl 3 rfl) ?_
        refine va_slen hx hb hX hbl hbA hS dL_law_20 ?_
        refine gp_ni 7 rfl ?_
        refine lv_bipush (v := 7) hx hb dL_law_21 (by decide) ?_
        refine lv_isub hx hb dL_law_23 ?_
        refine gp_ni 0 (by decide) ?_
        refine lv_icmp_gt (tgt := 1370) hx hb dL_law_24 (by decide) (fun c_20 => ?_) (fun c_20 => absurd (by decide) c_20)
        refine lv_iconst (v := 1) hx hb dL_law_1370 (by decide) ?_
        refine va_forget (fun q hq => hSA _ (hS.2.2 q hq)) ?_
        refine W.widen (k := 600000) (n := 7302250) (by decide) (by decide) ?_
        exact lw_ret hx hb hr hlocks dL_law_1371
      · exact absurd p_15 p_18
    · refine lv_aload_n hx hb dL_law_501 rfl (lv_at hl 1 rfl) ?_
      refine lv_aload_n hx hb dL_law_502 rfl (lv_at hl 3 rfl) ?_
      refine lv_iload_n hx hb dL_law_503 rfl (lv_at hl 0 rfl) ?_
      refine lv_iconst (v := 1) hx hb dL_law_504 (by decide) ?_
      refine lv_iadd hx hb dL_law_505 ?_
      refine gp_ni 1 (by decide) ?_
      refine va_sld hx hb hX hbl hbA hS (by unfold vp_in; decide) dL_law_506 ?_
      refine gp_ni (xs 1) rfl ?_
      refine lv_aload_n hx hb dL_law_507 rfl (lv_at hl 3 rfl) ?_
      refine lv_iload_n hx hb dL_law_508 rfl (lv_at hl 0 rfl) ?_
      refine lv_iconst (v := 2) hx hb dL_law_509 (by decide) ?_
      refine lv_iadd hx hb dL_law_510 ?_
      refine gp_ni 2 (by decide) ?_
      refine va_sld hx hb hX hbl hbA hS (by unfold vp_in; decide) dL_law_511 ?_
      refine gp_ni (xs 2) rfl ?_
      refine lv_aload_n hx hb dL_law_512 rfl (lv_at hl 3 rfl) ?_
      refine lv_iload_n hx hb dL_law_513 rfl (lv_at hl 0 rfl) ?_
      refine lv_iconst (v := 3) hx hb dL_law_514 (by decide) ?_
      refine lv_iadd hx hb dL_law_515 ?_
      refine gp_ni 3 (by decide) ?_
      refine va_sld hx hb hX hbl hbA hS (by unfold vp_in; decide) dL_law_516 ?_
      refine gp_ni (xs 3) rfl ?_
      refine lv_aload_n hx hb dL_law_517 rfl (lv_at hl 3 rfl) ?_
      refine lv_iload_n hx hb dL_law_518 rfl (lv_at hl 0 rfl) ?_
      refine lv_iconst (v := 4) hx hb dL_law_519 (by decide) ?_
      refine lv_iadd hx hb dL_law_520 ?_
      refine gp_ni 4 (by decide) ?_
      refine va_sld hx hb hX hbl hbA hS (by unfold vp_in; decide) dL_law_521 ?_
      refine gp_ni (xs 4) rfl ?_
      refine lv_aload_n hx hb dL_law_522 rfl (lv_at hl 3 rfl) ?_
      refine lv_iload_n hx hb dL_law_523 rfl (lv_at hl 0 rfl) ?_
      refine lv_iconst (v := 5) hx hb dL_law_524 (by decide) ?_
      refine lv_iadd hx hb dL_law_525 ?_
      refine gp_ni 5 (by decide) ?_
      refine va_sld hx hb hX hbl hbA hS (by unfold vp_in; decide) dL_law_526 ?_
      refine gp_ni (xs 5) rfl ?_
      refine lv_aload_n hx hb dL_law_527 rfl (lv_at hl 3 rfl) ?_
      refine lv_iload_n hx hb dL_law_528 rfl (lv_at hl 0 rfl) ?_
      refine lv_bipush (v := 6) hx hb dL_law_529 (by decide) ?_
      refine lv_iadd hx hb dL_law_531 ?_
      refine gp_ni 6 (by decide) ?_
      refine va_sld hx hb hX hbl hbA hS (by unfold vp_in; decide) dL_law_532 ?_
      refine gp_ni (xs 6) rfl ?_
      refine lv_if_eq (tgt := 540) hx hb dL_law_533 (by decide) (fun c_21 => absurd c_21 c_1) (fun c_21 => ?_)
      refine lv_iconst (v := 1) hx hb dL_law_536 (by decide) ?_
      refine lv_goto (tgt := 541) hx hb dL_law_537 (by decide) ?_
      have hPc := hP.sub (ws' := [((ma 200), mo_0 ma), ((ma 14), .inl (cy 3, 12, .inl (fun _ => 0))), ((ma 15), .inl (cy 1, 12, .inl (fun _ => 0))), ((ma 16), .inl (cy 1, 12, .inl (fun _ => 0))), ((ma 17), .inl (cy 1, 12, .inl (fun _ => 0))), ((ma 18), .inl (cy 1, 12, .inl (fun _ => 0))), ((ma 19), .inl (cy 3, 12, .inl (fun _ => 0)))]) [0, 4, 5, 6, 7, 8, 9] rfl
      have hDc := hD.sub (ws' := [((ma 200), mo_0 ma), ((ma 14), .inl (cy 3, 12, .inl (fun _ => 0))), ((ma 15), .inl (cy 1, 12, .inl (fun _ => 0))), ((ma 16), .inl (cy 1, 12, .inl (fun _ => 0))), ((ma 17), .inl (cy 1, 12, .inl (fun _ => 0))), ((ma 18), .inl (cy 1, 12, .inl (fun _ => 0))), ((ma 19), .inl (cy 3, 12, .inl (fun _ => 0)))]) [0, 4, 5, 6, 7, 8, 9] (by decide) rfl
      have hFc := va_free (wc := [((ma 200), mo_0 ma), ((ma 14), .inl (cy 3, 12, .inl (fun _ => 0))), ((ma 15), .inl (cy 1, 12, .inl (fun _ => 0))), ((ma 16), .inl (cy 1, 12, .inl (fun _ => 0))), ((ma 17), .inl (cy 1, 12, .inl (fun _ => 0))), ((ma 18), .inl (cy 1, 12, .inl (fun _ => 0))), ((ma 19), .inl (cy 3, 12, .inl (fun _ => 0)))]) hD hS hA [0, 4, 5, 6, 7, 8, 9] rfl
      refine va_calli (va_runV (As := [.int (xs 1), .int (xs 2), .int (xs 3), .int (xs 4), .int (xs 5), .int 1]) (rest := [.int 0]) ⟨hx, hb, hml, hown, hts⟩ (kX12_wall l D cy H.size ma (xs 1) (xs 2) (xs 3) (xs 4) (xs 5) 1) (cwV 6 hts gc_kX12_wall rfl rfl rfl (by decide +kernel) ⟨Nat.le_of_ble_eq_true rfl, Nat.le_of_ble_eq_true rfl⟩) (gp_preV (RX12, TX12, 104) 12 0 hPc hDc hK hN rfl rfl) rfl rfl hl.1 rfl (lv_room (Nat.le_of_ble_eq_true rfl)) dL_law_541 ⟨Nat.le_of_ble_eq_true rfl, Nat.le_of_ble_eq_true rfl⟩) hS (fun q _ h => hFc q h) hFc (fun r_22 u t H locs ht hvm hw hB hz1 hk1 hS => ?_)
      obtain ⟨hP, hD⟩ := gp_join (wr := []) (w1 := []) hP hD [0, 4, 5, 6, 7, 8, 9] [] rfl rfl (by decide) (by decide) hk1 hFc ht hB
      have hP : va_P D vwCl [] H := hP
      have hD : va_D A [] := hD
      rcases hw with ⟨rfl, p_23⟩ | ⟨rfl, p_23⟩
      · exact absurd p_23 p_15
      · refine lv_icmp_eq (tgt := 1364) hx hb dL_law_544 (by decide) (fun c_24 => ?_) (fun c_24 => absurd (by decide) c_24)
        refine lv_iinc (v := 7) (lv' := [(3, .int 7), (2, .ref (ma 200)), (1, .ref (xa 0)), (0, .ref b)]) hx hb dL_law_1364 hl (k := 0) rfl (by decide) (by decide) rfl (fun ls hl => ?_)
        refine lv_goto (tgt := 18) hx hb dL_law_1367 (by decide) ?_
        refine lv_iload_n hx hb dL_law_18 rfl (lv_at hl 0 rfl) ?_
        refine lv_aload_n hx hb dL_law_19 rfl (lv_at hl 3 rfl) ?_
        refine va_slen hx hb hX hbl hbA hS dL_law_20 ?_
        refine gp_ni 7 rfl ?_
        refine lv_bipush (v := 7) hx hb dL_law_21 (by decide) ?_
        refine lv_isub hx hb dL_law_23 ?_
        refine gp_ni 0 (by decide) ?_
        refine lv_icmp_gt (tgt := 1370) hx hb dL_law_24 (by decide) (fun c_25 => ?_) (fun c_25 => absurd (by decide) c_25)
        refine lv_iconst (v := 1) hx hb dL_law_1370 (by decide) ?_
        refine va_forget (fun q hq => hSA _ (hS.2.2 q hq)) ?_
        refine W.widen (k := 600000) (n := 7302250) (by decide) (by decide) ?_
        exact lw_ret hx hb hr hlocks dL_law_1371

set_option maxHeartbeats 4000000 in
set_option maxRecDepth 100000 in
theorem law_7 {p : Program} {e : Env} {s : State} {m : MethodId} {below : List Frame} {meth : Method} {c : Code} (l : Launch) {b : Nat} {xs : Nat → Int32} (C0 : lw_At p s m meth c b 7 xs) {D : va_G} {cy : Nat → ClassId} (hK : va_K D vwCl (gp_T cy) s) (hN : gp_N s) (xa ma : Nat → Nat) (fO : Nat → Option Nat) (hO : fO 0 = some (xa 6)) {A : Nat → Prop} (hAe : A = (fun q : Nat => s.heap.size ≤ q)) {H : Heap} {locs : List Loc} {ls : Array Slot} (hP : va_P D vwCl (lw_W cy xa ma fO) H) (hD : va_D A (lw_W cy xa ma fO)) (hS : va_S A s.heap H locs) (hl : lv_has ls 4 [(3, .int 0), (2, .ref (ma 200)), (1, .ref (xa 0)), (0, .ref b)]) : W p l e room_1 s m #[Value.ref b] below meth c H locs 153 14835 (lw_Z below #[Value.ref b] s) (F0 m 549 ls []) := by
  obtain ⟨hx, hb, hr, hml, hown, hts, hX, hbl, hlocks, hgv⟩ := id C0
  have hown : s.vm.findClass RL = some m.cls := hown
  have hA : ∀ q : Nat, s.heap.size ≤ q → A q := fun q h => by rw [hAe]; exact h
  have hbA : ¬ A b := by rw [hAe]; exact Nat.not_le.mpr hbl
  have hSA : ∀ q : Nat, A q → s.heap.size ≤ q := fun q h => by rw [hAe] at h; exact h
  refine lv_aload_n hx hb dL_law_549 rfl (lv_at hl 2 rfl) ?_
  refine lv_aload_n hx hb dL_law_550 rfl (lv_at hl 3 rfl) ?_
  refine lv_iload_n hx hb dL_law_551 rfl (lv_at hl 0 rfl) ?_
  refine lv_iconst (v := 1) hx hb dL_law_552 (by decide) ?_
  refine lv_iadd hx hb dL_law_553 ?_
  refine gp_ni 1 (by decide) ?_
  refine va_sld hx hb hX hbl hbA hS (by unfold vp_in; decide) dL_law_554 ?_
  refine gp_ni (xs 1) rfl ?_
  refine lv_aload_n hx hb dL_law_555 rfl (lv_at hl 3 rfl) ?_
  refine lv_iload_n hx hb dL_law_556 rfl (lv_at hl 0 rfl) ?_
  refine lv_iconst (v := 2) hx hb dL_law_557 (by decide) ?_
  refine lv_iadd hx hb dL_law_558 ?_
  refine gp_ni 2 (by decide) ?_
  refine va_sld hx hb hX hbl hbA hS (by unfold vp_in; decide) dL_law_559 ?_
  refine gp_ni (xs 2) rfl ?_
  refine lv_aload_n hx hb dL_law_560 rfl (lv_at hl 3 rfl) ?_
  refine lv_iload_n hx hb dL_law_561 rfl (lv_at hl 0 rfl) ?_
  refine lv_iconst (v := 3) hx hb dL_law_562 (by decide) ?_
  refine lv_iadd hx hb dL_law_563 ?_
  refine gp_ni 3 (by decide) ?_
  refine va_sld hx hb hX hbl hbA hS (by unfold vp_in; decide) dL_law_564 ?_
  refine gp_ni (xs 3) rfl ?_
  refine lv_aload_n hx hb dL_law_565 rfl (lv_at hl 3 rfl) ?_
  refine lv_iload_n hx hb dL_law_566 rfl (lv_at hl 0 rfl) ?_
  refine lv_iconst (v := 4) hx hb dL_law_567 (by decide) ?_
  refine lv_iadd hx hb dL_law_568 ?_
  refine gp_ni 4 (by decide) ?_
  refine va_sld hx hb hX hbl hbA hS (by unfold vp_in; decide) dL_law_569 ?_
  refine gp_ni (xs 4) rfl ?_
  refine lv_aload_n hx hb dL_law_570 rfl (lv_at hl 3 rfl) ?_
  refine lv_iload_n hx hb dL_law_571 rfl (lv_at hl 0 rfl) ?_
  refine lv_iconst (v := 5) hx hb dL_law_572 (by decide) ?_
  refine lv_iadd hx hb dL_law_573 ?_
  refine gp_ni 5 (by decide) ?_
  refine va_sld hx hb hX hbl hbA hS (by unfold vp_in; decide) dL_law_574 ?_
  refine gp_ni (xs 5) rfl ?_
  have hPc := hP.sub (ws' := [((xa 0), .inr (11, [.ref (xa 1), .ref (xa 3), .ref (xa 7), .ref (xa 11), .ref (xa 20), .ref (xa 24), .ref (xa 25), .ref (xa 29)])), ((xa 11), .inr (7, [.int (-50), .int 0, .int 50, .int 80, .int (-60), .int (-40), .int 60, .int (-40), .int 0, .int 4, .int 0, .ref (xa 12), .ref (xa 13), .ref (xa 14), .ref (xa 15), .ref (xa 16), .ref (xa 17), .ref (xa 18), .ref (xa 19)])), ((xa 18), .inl (cy 3, 8, .inl (fun _ => 0))), ((xa 19), .inl (cy 6, 8, .inr (.inr (.inr (.inr (fun i => if i < 8 then some (xa (120 + i)) else none)))))), ((xa 120), .inl (cy 1, 4, .inl (fun _ => 0))), ((xa 121), .inl (cy 1, 4, .inl (fun _ => 0))), ((xa 122), .inl (cy 1, 4, .inl (fun _ => 0))), ((xa 123), .inl (cy 1, 4, .inl (fun _ => 0))), ((xa 124), .inl (cy 1, 4, .inl (fun _ => 0))), ((xa 125), .inl (cy 1, 4, .inl (fun _ => 0))), ((xa 126), .inl (cy 1, 4, .inl (fun _ => 0))), ((xa 127), .inl (cy 1, 4, .inl (fun _ => 0)))]) [0, 11, 18, 19, 47, 48, 49, 50, 51, 52, 53, 54] rfl
  have hDc := hD.sub (ws' := [((xa 0), .inr (11, [.ref (xa 1), .ref (xa 3), .ref (xa 7), .ref (xa 11), .ref (xa 20), .ref (xa 24), .ref (xa 25), .ref (xa 29)])), ((xa 11), .inr (7, [.int (-50), .int 0, .int 50, .int 80, .int (-60), .int (-40), .int 60, .int (-40), .int 0, .int 4, .int 0, .ref (xa 12), .ref (xa 13), .ref (xa 14), .ref (xa 15), .ref (xa 16), .ref (xa 17), .ref (xa 18), .ref (xa 19)])), ((xa 18), .inl (cy 3, 8, .inl (fun _ => 0))), ((xa 19), .inl (cy 6, 8, .inr (.inr (.inr (.inr (fun i => if i < 8 then some (xa (120 + i)) else none)))))), ((xa 120), .inl (cy 1, 4, .inl (fun _ => 0))), ((xa 121), .inl (cy 1, 4, .inl (fun _ => 0))), ((xa 122), .inl (cy 1, 4, .inl (fun _ => 0))), ((xa 123), .inl (cy 1, 4, .inl (fun _ => 0))), ((xa 124), .inl (cy 1, 4, .inl (fun _ => 0))), ((xa 125), .inl (cy 1, 4, .inl (fun _ => 0))), ((xa 126), .inl (cy 1, 4, .inl (fun _ => 0))), ((xa 127), .inl (cy 1, 4, .inl (fun _ => 0)))]) [0, 11, 18, 19, 47, 48, 49, 50, 51, 52, 53, 54] (by decide) rfl
  have hFc := va_free (wc := [((xa 0), .inr (11, [.ref (xa 1), .ref (xa 3), .ref (xa 7), .ref (xa 11), .ref (xa 20), .ref (xa 24), .ref (xa 25), .ref (xa 29)])), ((xa 11), .inr (7, [.int (-50), .int 0, .int 50, .int 80, .int (-60), .int (-40), .int 60, .int (-40), .int 0, .int 4, .int 0, .ref (xa 12), .ref (xa 13), .ref (xa 14), .ref (xa 15), .ref (xa 16), .ref (xa 17), .ref (xa 18), .ref (xa 19)])), ((xa 18), .inl (cy 3, 8, .inl (fun _ => 0))), ((xa 19), .inl (cy 6, 8, .inr (.inr (.inr (.inr (fun i => if i < 8 then some (xa (120 + i)) else none)))))), ((xa 120), .inl (cy 1, 4, .inl (fun _ => 0))), ((xa 121), .inl (cy 1, 4, .inl (fun _ => 0))), ((xa 122), .inl (cy 1, 4, .inl (fun _ => 0))), ((xa 123), .inl (cy 1, 4, .inl (fun _ => 0))), ((xa 124), .inl (cy 1, 4, .inl (fun _ => 0))), ((xa 125), .inl (cy 1, 4, .inl (fun _ => 0))), ((xa 126), .inl (cy 1, 4, .inl (fun _ => 0))), ((xa 127), .inl (cy 1, 4, .inl (fun _ => 0)))]) hD hS hA [0, 11, 18, 19, 47, 48, 49, 50, 51, 52, 53, 54] rfl
  refine va_calli (va_runV (As := [.int (xs 1), .int (xs 2), .int (xs 3), .int (xs 4), .int (xs 5)]) (rest := []) ⟨hx, hb, hml, hown, hts⟩ (kX11_thing l D cy H.size xa (xs 1) (xs 2) (xs 3) (xs 4) (xs 5)) (cwV 5 hts gc_kX11_thing rfl rfl rfl (by decide +kernel) ⟨Nat.le_of_ble_eq_true rfl, Nat.le_of_ble_eq_true rfl⟩) (gp_preV (RX11, TX11, 8) 11 0 hPc hDc hK hN rfl rfl) rfl rfl hl.1 rfl (lv_room (Nat.le_of_ble_eq_true rfl)) dL_law_575 ⟨Nat.le_of_ble_eq_true rfl, Nat.le_of_ble_eq_true rfl⟩) hS (fun q _ h => hFc q h) hFc (fun r_1 u t H locs ht hvm hw hB hz1 hk1 hS => ?_)
  obtain ⟨hP, hD⟩ := gp_join (wr := [((ma 200), mo_0 ma), ((ma 11), .inl (cy 3, 8, .inl (fun _ => 0))), ((ma 12), .inl (cy 1, 8, .inl (fun _ => 0))), ((ma 13), .inl (cy 1, 8, .inl (fun _ => 0))), ((ma 14), .inl (cy 3, 12, .inl (fun _ => 0))), ((ma 15), .inl (cy 1, 12, .inl (fun _ => 0))), ((ma 16), .inl (cy 1, 12, .inl (fun _ => 0))), ((ma 17), .inl (cy 1, 12, .inl (fun _ => 0))), ((ma 18), .inl (cy 1, 12, .inl (fun _ => 0))), ((ma 19), .inl (cy 3, 12, .inl (fun _ => 0))), ((ma 20), .inl (cy 3, 8, .inl (fun _ => 0))), ((ma 21), .inl (cy 1, 8, .inl (fun _ => 0))), ((ma 22), .inl (cy 1, 8, .inl (fun _ => 0))), ((ma 23), .inl (cy 1, 8, .inl (fun _ => 0))), ((ma 24), .inl (cy 1, 8, .inl (fun _ => 0))), ((ma 33), .inl (cy 1, 600, .inl (fun _ => 0))), ((ma 68), .inl (cy 1, 8, .inl (fun _ => 0))), ((ma 69), .inl (cy 1, 8, .inl (fun _ => 0))), ((ma 70), .inl (cy 1, 8, .inl (fun _ => 0))), ((ma 73), .inl (cy 1, 241, .inl (fun _ => 0))), ((ma 74), .inl (cy 1, 241, .inl (fun _ => 0))), ((ma 75), .inl (cy 1, 241, .inl (upd (fun _ => 0) 0 1))), ((ma 93), .inl (cy 1, 1000, .inl (fun _ => 0))), ((ma 94), .inl (cy 3, 1001, .inl (fun _ => 0))), ((ma 95), .inl (cy 1, 1000, .inl (fun _ => 0))), ((ma 97), .inl (cy 1, 101, .inl (fun _ => 0))), ((ma 98), .inl (cy 1, 101, .inl (fun _ => 0))), ((ma 99), .inl (cy 1, 101, .inl (fun _ => 0))), ((ma 100), .inl (cy 1, 101, .inl (fun _ => 0)))]) (w1 := []) hP hD [0, 11, 18, 19, 47, 48, 49, 50, 51, 52, 53, 54] [67, 68, 69, 70, 71, 72, 73, 74, 75, 76, 77, 78, 79, 80, 81, 82, 83, 84, 85, 86, 87, 88, 89, 90, 91, 92, 93, 94, 95] rfl rfl (by decide) (by decide) hk1 hFc ht hB
  have hP : va_P D vwCl [((ma 200), mo_0 ma), ((ma 11), .inl (cy 3, 8, .inl (fun _ => 0))), ((ma 12), .inl (cy 1, 8, .inl (fun _ => 0))), ((ma 13), .inl (cy 1, 8, .inl (fun _ => 0))), ((ma 14), .inl (cy 3, 12, .inl (fun _ => 0))), ((ma 15), .inl (cy 1, 12, .inl (fun _ => 0))), ((ma 16), .inl (cy 1, 12, .inl (fun _ => 0))), ((ma 17), .inl (cy 1, 12, .inl (fun _ => 0))), ((ma 18), .inl (cy 1, 12, .inl (fun _ => 0))), ((ma 19), .inl (cy 3, 12, .inl (fun _ => 0))), ((ma 20), .inl (cy 3, 8, .inl (fun _ => 0))), ((ma 21), .inl (cy 1, 8, .inl (fun _ => 0))), ((ma 22), .inl (cy 1, 8, .inl (fun _ => 0))), ((ma 23), .inl (cy 1, 8, .inl (fun _ => 0))), ((ma 24), .inl (cy 1, 8, .inl (fun _ => 0))), ((ma 33), .inl (cy 1, 600, .inl (fun _ => 0))), ((ma 68), .inl (cy 1, 8, .inl (fun _ => 0))), ((ma 69), .inl (cy 1, 8, .inl (fun _ => 0))), ((ma 70), .inl (cy 1, 8, .inl (fun _ => 0))), ((ma 73), .inl (cy 1, 241, .inl (fun _ => 0))), ((ma 74), .inl (cy 1, 241, .inl (fun _ => 0))), ((ma 75), .inl (cy 1, 241, .inl (upd (fun _ => 0) 0 1))), ((ma 93), .inl (cy 1, 1000, .inl (fun _ => 0))), ((ma 94), .inl (cy 3, 1001, .inl (fun _ => 0))), ((ma 95), .inl (cy 1, 1000, .inl (fun _ => 0))), ((ma 97), .inl (cy 1, 101, .inl (fun _ => 0))), ((ma 98), .inl (cy 1, 101, .inl (fun _ => 0))), ((ma 99), .inl (cy 1, 101, .inl (fun _ => 0))), ((ma 100), .inl (cy 1, 101, .inl (fun _ => 0)))] H := hP
  have hD : va_D A [((ma 200), mo_0 ma), ((ma 11), .inl (cy 3, 8, .inl (fun _ => 0))), ((ma 12), .inl (cy 1, 8, .inl (fun _ => 0))), ((ma 13), .inl (cy 1, 8, .inl (fun _ => 0))), ((ma 14), .inl (cy 3, 12, .inl (fun _ => 0))), ((ma 15), .inl (cy 1, 12, .inl (fun _ => 0))), ((ma 16), .inl (cy 1, 12, .inl (fun _ => 0))), ((ma 17), .inl (cy 1, 12, .inl (fun _ => 0))), ((ma 18), .inl (cy 1, 12, .inl (fun _ => 0))), ((ma 19), .inl (cy 3, 12, .inl (fun _ => 0))), ((ma 20), .inl (cy 3, 8, .inl (fun _ => 0))), ((ma 21), .inl (cy 1, 8, .inl (fun _ => 0))), ((ma 22), .inl (cy 1, 8, .inl (fun _ => 0))), ((ma 23), .inl (cy 1, 8, .inl (fun _ => 0))), ((ma 24), .inl (cy 1, 8, .inl (fun _ => 0))), ((ma 33), .inl (cy 1, 600, .inl (fun _ => 0))), ((ma 68), .inl (cy 1, 8, .inl (fun _ => 0))), ((ma 69), .inl (cy 1, 8, .inl (fun _ => 0))), ((ma 70), .inl (cy 1, 8, .inl (fun _ => 0))), ((ma 73), .inl (cy 1, 241, .inl (fun _ => 0))), ((ma 74), .inl (cy 1, 241, .inl (fun _ => 0))), ((ma 75), .inl (cy 1, 241, .inl (upd (fun _ => 0) 0 1))), ((ma 93), .inl (cy 1, 1000, .inl (fun _ => 0))), ((ma 94), .inl (cy 3, 1001, .inl (fun _ => 0))), ((ma 95), .inl (cy 1, 1000, .inl (fun _ => 0))), ((ma 97), .inl (cy 1, 101, .inl (fun _ => 0))), ((ma 98), .inl (cy 1, 101, .inl (fun _ => 0))), ((ma 99), .inl (cy 1, 101, .inl (fun _ => 0))), ((ma 100), .inl (cy 1, 101, .inl (fun _ => 0)))] := hD
  rcases hw with ⟨rfl, p_2⟩ | ⟨rfl, p_2⟩
  · refine lv_aload_n hx hb dL_law_578 rfl (lv_at hl 1 rfl) ?_
    refine lv_aload_n hx hb dL_law_579 rfl (lv_at hl 3 rfl) ?_
    refine lv_iload_n hx hb dL_law_580 rfl (lv_at hl 0 rfl) ?_
    refine lv_iconst (v := 1) hx hb dL_law_581 (by decide) ?_
    refine lv_iadd hx hb dL_law_582 ?_
    refine gp_ni 1 (by decide) ?_
    refine va_sld hx hb hX hbl hbA hS (by unfold vp_in; decide) dL_law_583 ?_
    refine gp_ni (xs 1) rfl ?_
    refine lv_aload_n hx hb dL_law_584 rfl (lv_at hl 3 rfl) ?_
    refine lv_iload_n hx hb dL_law_585 rfl (lv_at hl 0 rfl) ?_
    refine lv_iconst (v := 2) hx hb dL_law_586 (by decide) ?_
    refine lv_iadd hx hb dL_law_587 ?_
    refine gp_ni 2 (by decide) ?_
    refine va_sld hx hb hX hbl hbA hS (by unfold vp_in; decide) dL_law_588 ?_
    refine gp_ni (xs 2) rfl ?_
    refine lv_aload_n hx hb dL_law_589 rfl (lv_at hl 3 rfl) ?_
    refine lv_iload_n hx hb dL_law_590 rfl (lv_at hl 0 rfl) ?_
    refine lv_iconst (v := 3) hx hb dL_law_591 (by decide) ?_
    refine lv_iadd hx hb dL_law_592 ?_
    refine gp_ni 3 (by decide) ?_
    refine va_sld hx hb hX hbl hbA hS (by unfold vp_in; decide) dL_law_593 ?_
    refine gp_ni (xs 3) rfl ?_
    refine lv_aload_n hx hb dL_law_594 rfl (lv_at hl 3 rfl) ?_
    refine lv_iload_n hx hb dL_law_595 rfl (lv_at hl 0 rfl) ?_
    refine lv_iconst (v := 4) hx hb dL_law_596 (by decide) ?_
    refine lv_iadd hx hb dL_law_597 ?_
    refine gp_ni 4 (by decide) ?_
    refine va_sld hx hb hX hbl hbA hS (by unfold vp_in; decide) dL_law_598 ?_
    refine gp_ni (xs 4) rfl ?_
    refine lv_aload_n hx hb dL_law_599 rfl (lv_at hl 3 rfl) ?_
    refine lv_iload_n hx hb dL_law_600 rfl (lv_at hl 0 rfl) ?_
    refine lv_iconst (v := 5) hx hb dL_law_601 (by decide) ?_
    refine lv_iadd hx hb dL_law_602 ?_
    refine gp_ni 5 (by decide) ?_
    refine va_sld hx hb hX hbl hbA hS (by unfold vp_in; decide) dL_law_603 ?_
    refine gp_ni (xs 5) rfl ?_
    have hPc := hP.sub (ws' := [((ma 200), mo_0 ma), ((ma 20), .inl (cy 3, 8, .inl (fun _ => 0))), ((ma 21), .inl (cy 1, 8, .inl (fun _ => 0))), ((ma 22), .inl (cy 1, 8, .inl (fun _ => 0))), ((ma 23), .inl (cy 1, 8, .inl (fun _ => 0))), ((ma 24), .inl (cy 1, 8, .inl (fun _ => 0)))]) [0, 10, 11, 12, 13, 14] rfl
    have hDc := hD.sub (ws' := [((ma 200), mo_0 ma), ((ma 20), .inl (cy 3, 8, .inl (fun _ => 0))), ((ma 21), .inl (cy 1, 8, .inl (fun _ => 0))), ((ma 22), .inl (cy 1, 8, .inl (fun _ => 0))), ((ma 23), .inl (cy 1, 8, .inl (fun _ => 0))), ((ma 24), .inl (cy 1, 8, .inl (fun _ => 0)))]) [0, 10, 11, 12, 13, 14] (by decide) rfl
    have hFc := va_free (wc := [((ma 200), mo_0 ma), ((ma 20), .inl (cy 3, 8, .inl (fun _ => 0))), ((ma 21), .inl (cy 1, 8, .inl (fun _ => 0))), ((ma 22), .inl (cy 1, 8, .inl (fun _ => 0))), ((ma 23), .inl (cy 1, 8, .inl (fun _ => 0))), ((ma 24), .inl (cy 1, 8, .inl (fun _ => 0)))]) hD hS hA [0, 10, 11, 12, 13, 14] rfl
    refine va_calli (va_runV (As := [.int (xs 1), .int (xs 2), .int (xs 3), .int (xs 4), .int (xs 5)]) (rest := [.int 1]) ⟨hx, hb, hml, hown, hts⟩ (kX12_thing l D cy H.size ma (xs 1) (xs 2) (xs 3) (xs 4) (xs 5)) (cwV 5 hts gc_kX12_thing rfl rfl rfl (by decide +kernel) ⟨Nat.le_of_ble_eq_true rfl, Nat.le_of_ble_eq_true rfl⟩) (gp_preV (RX12, TX12, 104) 12 0 hPc hDc hK hN rfl rfl) rfl rfl hl.1 rfl (lv_room (Nat.le_of_ble_eq_true rfl)) dL_law_604 ⟨Nat.le_of_ble_eq_true rfl, Nat.le_of_ble_eq_true rfl⟩) hS (fun q _ h => hFc q h) hFc (fun r_3 u t H locs ht hvm hw hB hz1 hk1 hS => ?_)
    obtain ⟨hP, hD⟩ := gp_join (wr := []) (w1 := []) hP hD [0, 10, 11, 12, 13, 14] [] rfl rfl (by decide) (by decide) hk1 hFc ht hB
    have hP : va_P D vwCl [] H := hP
    have hD : va_D A [] := hD
    rcases hw with ⟨rfl, p_4⟩ | ⟨rfl, p_4⟩
    · refine lv_icmp_eq (tgt := 1364) hx hb dL_law_607 (by decide) (fun c_5 => ?_) (fun c_5 => absurd (by decide) c_5)
      refine lv_iinc (v := 7) (lv' := [(3, .int 7), (2, .ref (ma 200)), (1, .ref (xa 0)), (0, .ref b)]) hx hb dL_law_1364 hl (k := 0) rfl (by decide) (by decide) rfl (fun ls hl => ?_)
      refine lv_goto (tgt := 18) hx hb dL_law_1367 (by decide) ?_
      refine lv_iload_n hx hb dL_law_18 rfl (lv_at hl 0 rfl) ?_
      refine lv_aload_n hx hb dL_law_19 rfl (lv_at hl 3 rfl) ?_
      refine va_slen hx hb hX hbl hbA hS dL_law_20 ?_
      refine gp_ni 7 rfl ?_
      refine lv_bipush (v := 7) hx hb dL_law_21 (by decide) ?_
      refine lv_isub hx hb dL_law_23 ?_
      refine gp_ni 0 (by decide) ?_
      refine lv_icmp_gt (tgt := 1370) hx hb dL_law_24 (by decide) (fun c_6 => ?_) (fun c_6 => absurd (by decide) c_6)
      refine lv_iconst (v := 1) hx hb dL_law_1370 (by decide) ?_
      refine va_forget (fun q hq => hSA _ (hS.2.2 q hq)) ?_
      refine W.widen (k := 600000) (n := 7302250) (by decide) (by decide) ?_
      exact lw_ret hx hb hr hlocks dL_law_1371
    · exact absurd p_2 p_4
  · refine lv_aload_n hx hb dL_law_578 rfl (lv_at hl 1 rfl) ?_
    refine lv_aload_n hx hb dL_law_579 rfl (lv_at hl 3 rfl) ?_
    refine lv_iload_n hx hb dL_law_580 rfl (lv_at hl 0 rfl) ?_
    refine lv_iconst (v := 1) hx hb dL_law_581 (by decide) ?_
    refine lv_iadd hx hb dL_law_582 ?_
    refine gp_ni 1 (by decide) ?_
    refine va_sld hx hb hX hbl hbA hS (by unfold vp_in; decide) dL_law_583 ?_
    refine gp_ni (xs 1) rfl ?_
    refine lv_aload_n hx hb dL_law_584 rfl (lv_at hl 3 rfl) ?_
    refine lv_iload_n hx hb dL_law_585 rfl (lv_at hl 0 rfl) ?_
    refine lv_iconst (v := 2) hx hb dL_law_586 (by decide) ?_
    refine lv_iadd hx hb dL_law_587 ?_
    refine gp_ni 2 (by decide) ?_
    refine va_sld hx hb hX hbl hbA hS (by unfold vp_in; decide) dL_law_588 ?_
    refine gp_ni (xs 2) rfl ?_
    refine lv_aload_n hx hb dL_law_589 rfl (lv_at hl 3 rfl) ?_
    refine lv_iload_n hx hb dL_law_590 rfl (lv_at hl 0 rfl) ?_
    refine lv_iconst (v := 3) hx hb dL_law_591 (by decide) ?_
    refine lv_iadd hx hb dL_law_592 ?_
    refine gp_ni 3 (by decide) ?_
    refine va_sld hx hb hX hbl hbA hS (by unfold vp_in; decide) dL_law_593 ?_
    refine gp_ni (xs 3) rfl ?_
    refine lv_aload_n hx hb dL_law_594 rfl (lv_at hl 3 rfl) ?_
    refine lv_iload_n hx hb dL_law_595 rfl (lv_at hl 0 rfl) ?_
    refine lv_iconst (v := 4) hx hb dL_law_596 (by decide) ?_
    refine lv_iadd hx hb dL_law_597 ?_
    refine gp_ni 4 (by decide) ?_
    refine va_sld hx hb hX hbl hbA hS (by unfold vp_in; decide) dL_law_598 ?_
    refine gp_ni (xs 4) rfl ?_
    refine lv_aload_n hx hb dL_law_599 rfl (lv_at hl 3 rfl) ?_
    refine lv_iload_n hx hb dL_law_600 rfl (lv_at hl 0 rfl) ?_
    refine lv_iconst (v := 5) hx hb dL_law_601 (by decide) ?_
    refine lv_iadd hx hb dL_law_602 ?_
    refine gp_ni 5 (by decide) ?_
    refine va_sld hx hb hX hbl hbA hS (by unfold vp_in; decide) dL_law_603 ?_
    refine gp_ni (xs 5) rfl ?_
    have hPc := hP.sub (ws' := [((ma 200), mo_0 ma), ((ma 20), .inl (cy 3, 8, .inl (fun _ => 0))), ((ma 21), .inl (cy 1, 8, .inl (fun _ => 0))), ((ma 22), .inl (cy 1, 8, .inl (fun _ => 0))), ((ma 23), .inl (cy 1, 8, .inl (fun _ => 0))), ((ma 24), .inl (cy 1, 8, .inl (fun _ => 0)))]) [0, 10, 11, 12, 13, 14] rfl
    have hDc := hD.sub (ws' := [((ma 200), mo_0 ma), ((ma 20), .inl (cy 3, 8, .inl (fun _ => 0))), ((ma 21), .inl (cy 1, 8, .inl (fun _ => 0))), ((ma 22), .inl (cy 1, 8, .inl (fun _ => 0))), ((ma 23), .inl (cy 1, 8, .inl (fun _ => 0))), ((ma 24), .inl (cy 1, 8, .inl (fun _ => 0)))]) [0, 10, 11, 12, 13, 14] (by decide) rfl
    have hFc := va_free (wc := [((ma 200), mo_0 ma), ((ma 20), .inl (cy 3, 8, .inl (fun _ => 0))), ((ma 21), .inl (cy 1, 8, .inl (fun _ => 0))), ((ma 22), .inl (cy 1, 8, .inl (fun _ => 0))), ((ma 23), .inl (cy 1, 8, .inl (fun _ => 0))), ((ma 24), .inl (cy 1, 8, .inl (fun _ => 0)))]) hD hS hA [0, 10, 11, 12, 13, 14] rfl
    refine va_calli (va_runV (As := [.int (xs 1), .int (xs 2), .int (xs 3), .int (xs 4), .int (xs 5)]) (rest := [.int 0]) ⟨hx, hb, hml, hown, hts⟩ (kX12_thing l D cy H.size ma (xs 1) (xs 2) (xs 3) (xs 4) (xs 5)) (cwV 5 hts gc_kX12_thing rfl rfl rfl (by decide +kernel) ⟨Nat.le_of_ble_eq_true rfl, Nat.le_of_ble_eq_true rfl⟩) (gp_preV (RX12, TX12, 104) 12 0 hPc hDc hK hN rfl rfl) rfl rfl hl.1 rfl (lv_room (Nat.le_of_ble_eq_true rfl)) dL_law_604 ⟨Nat.le_of_ble_eq_true rfl, Nat.le_of_ble_eq_true rfl⟩) hS (fun q _ h => hFc q h) hFc (fun r_7 u t H locs ht hvm hw hB hz1 hk1 hS => ?_)
    obtain ⟨hP, hD⟩ := gp_join (wr := []) (w1 := []) hP hD [0, 10, 11, 12, 13, 14] [] rfl rfl (by decide) (by decide) hk1 hFc ht hB
    have hP : va_P D vwCl [] H := hP
    have hD : va_D A [] := hD
    rcases hw with ⟨rfl, p_8⟩ | ⟨rfl, p_8⟩
    · exact absurd p_8 p_2
    · refine lv_icmp_eq (tgt := 1364) hx hb dL_law_607 (by decide) (fun c_9 => ?_) (fun c_9 => absurd (by decide) c_9)
      refine lv_iinc (v := 7) (lv' := [(3, .int 7), (2, .ref (ma 200)), (1, .ref (xa 0)), (0, .ref b)]) hx hb dL_law_1364 hl (k := 0) rfl (by decide) (by decide) rfl (fun ls hl => ?_)
      refine lv_goto (tgt := 18) hx hb dL_law_1367 (by decide) ?_
      refine lv_iload_n hx hb dL_law_18 rfl (lv_at hl 0 rfl) ?_
      refine lv_aload_n hx hb dL_law_19 rfl (lv_at hl 3 rfl) ?_
      refine va_slen hx hb hX hbl hbA hS dL_law_20 ?_
      refine gp_ni 7 rfl ?_
      refine lv_bipush (v := 7) hx hb dL_law_21 (by decide) ?_
      refine lv_isub hx hb dL_law_23 ?_
      refine gp_ni 0 (by decide) ?_
      refine lv_icmp_gt (tgt := 1370) hx hb dL_law_24 (by decide) (fun c_10 => ?_) (fun c_10 => absurd (by decide) c_10)
      refine lv_iconst (v := 1) hx hb dL_law_1370 (by decide) ?_
      refine va_forget (fun q hq => hSA _ (hS.2.2 q hq)) ?_
      refine W.widen (k := 600000) (n := 7302250) (by decide) (by decide) ?_
      exact lw_ret hx hb hr hlocks dL_law_1371

set_option maxHeartbeats 4000000 in
set_option maxRecDepth 100000 in
theorem law_8 {p : Program} {e : Env} {s : State} {m : MethodId} {below : List Frame} {meth : Method} {c : Code} (l : Launch) {b : Nat} {xs : Nat → Int32} (C0 : lw_At p s m meth c b 7 xs) {D : va_G} {cy : Nat → ClassId} (hK : va_K D vwCl (gp_T cy) s) (hN : gp_N s) (xa ma : Nat → Nat) (fO : Nat → Option Nat) (hO : fO 0 = some (xa 6)) {A : Nat → Prop} (hAe : A = (fun q : Nat => s.heap.size ≤ q)) {H : Heap} {locs : List Loc} {ls : Array Slot} (hP : va_P D vwCl (lw_W cy xa ma fO) H) (hD : va_D A (lw_W cy xa ma fO)) (hS : va_S A s.heap H locs) (hl : lv_has ls 4 [(3, .int 0), (2, .ref (ma 200)), (1, .ref (xa 0)), (0, .ref b)]) : W p l e room_1 s m #[Value.ref b] below meth c H locs 153 14835 (lw_Z below #[Value.ref b] s) (F0 m 612 ls []) := by
  obtain ⟨hx, hb, hr, hml, hown, hts, hX, hbl, hlocks, hgv⟩ := id C0
  have hown : s.vm.findClass RL = some m.cls := hown
  have hA : ∀ q : Nat, s.heap.size ≤ q → A q := fun q h => by rw [hAe]; exact h
  have hbA : ¬ A b := by rw [hAe]; exact Nat.not_le.mpr hbl
  have hSA : ∀ q : Nat, A q → s.heap.size ≤ q := fun q h => by rw [hAe] at h; exact h
  refine lv_aload_n hx hb dL_law_612 rfl (lv_at hl 2 rfl) ?_
  refine lv_aload_n hx hb dL_law_613 rfl (lv_at hl 3 rfl) ?_
  refine lv_iload_n hx hb dL_law_614 rfl (lv_at hl 0 rfl) ?_
  refine lv_iconst (v := 1) hx hb dL_law_615 (by decide) ?_
  refine lv_iadd hx hb dL_law_616 ?_
  refine gp_ni 1 (by decide) ?_
  refine va_sld hx hb hX hbl hbA hS (by unfold vp_in; decide) dL_law_617 ?_
  refine gp_ni (xs 1) rfl ?_
  refine lv_aload_n hx hb dL_law_618 rfl (lv_at hl 3 rfl) ?_
  refine lv_iload_n hx hb dL_law_619 rfl (lv_at hl 0 rfl) ?_
  refine lv_iconst (v := 2) hx hb dL_law_620 (by decide) ?_
  refine lv_iadd hx hb dL_law_621 ?_
  refine gp_ni 2 (by decide) ?_
  refine va_sld hx hb hX hbl hbA hS (by unfold vp_in; decide) dL_law_622 ?_
  refine gp_ni (xs 2) rfl ?_
  have hPc := hP.sub (ws' := [((xa 0), .inr (11, [.ref (xa 1), .ref (xa 3), .ref (xa 7), .ref (xa 11), .ref (xa 20), .ref (xa 24), .ref (xa 25), .ref (xa 29)])), ((xa 11), .inr (7, [.int (-50), .int 0, .int 50, .int 80, .int (-60), .int (-40), .int 60, .int (-40), .int 0, .int 4, .int 0, .ref (xa 12), .ref (xa 13), .ref (xa 14), .ref (xa 15), .ref (xa 16), .ref (xa 17), .ref (xa 18), .ref (xa 19)])), ((xa 12), .inl (cy 3, 8, .inl (fun _ => 0))), ((xa 15), .inl (cy 3, 12, .inl (fun _ => 0))), ((xa 18), .inl (cy 3, 8, .inl (fun _ => 0)))]) [0, 11, 12, 15, 18] rfl
  have hDc := hD.sub (ws' := [((xa 0), .inr (11, [.ref (xa 1), .ref (xa 3), .ref (xa 7), .ref (xa 11), .ref (xa 20), .ref (xa 24), .ref (xa 25), .ref (xa 29)])), ((xa 11), .inr (7, [.int (-50), .int 0, .int 50, .int 80, .int (-60), .int (-40), .int 60, .int (-40), .int 0, .int 4, .int 0, .ref (xa 12), .ref (xa 13), .ref (xa 14), .ref (xa 15), .ref (xa 16), .ref (xa 17), .ref (xa 18), .ref (xa 19)])), ((xa 12), .inl (cy 3, 8, .inl (fun _ => 0))), ((xa 15), .inl (cy 3, 12, .inl (fun _ => 0))), ((xa 18), .inl (cy 3, 8, .inl (fun _ => 0)))]) [0, 11, 12, 15, 18] (by decide) rfl
  have hFc := va_free (wc := [((xa 0), .inr (11, [.ref (xa 1), .ref (xa 3), .ref (xa 7), .ref (xa 11), .ref (xa 20), .ref (xa 24), .ref (xa 25), .ref (xa 29)])), ((xa 11), .inr (7, [.int (-50), .int 0, .int 50, .int 80, .int (-60), .int (-40), .int 60, .int (-40), .int 0, .int 4, .int 0, .ref (xa 12), .ref (xa 13), .ref (xa 14), .ref (xa 15), .ref (xa 16), .ref (xa 17), .ref (xa 18), .ref (xa 19)])), ((xa 12), .inl (cy 3, 8, .inl (fun _ => 0))), ((xa 15), .inl (cy 3, 12, .inl (fun _ => 0))), ((xa 18), .inl (cy 3, 8, .inl (fun _ => 0)))]) hD hS hA [0, 11, 12, 15, 18] rfl
  refine va_calli (va_runV (As := [.int (xs 1), .int (xs 2)]) (rest := []) ⟨hx, hb, hml, hown, hts⟩ (kX11_gone l D cy H.size xa (xs 1) (xs 2)) (cwV 2 hts gc_kX11_gone rfl rfl rfl (by decide +kernel) ⟨Nat.le_of_ble_eq_true rfl, Nat.le_of_ble_eq_true rfl⟩) (gp_preV (RX11, TX11, 8) 11 0 hPc hDc hK hN rfl rfl) rfl rfl hl.1 rfl (lv_room (Nat.le_of_ble_eq_true rfl)) dL_law_623 ⟨Nat.le_of_ble_eq_true rfl, Nat.le_of_ble_eq_true rfl⟩) hS (fun q _ h => hFc q h) hFc (fun r_1 u t H locs ht hvm hw hB hz1 hk1 hS => ?_)
  obtain ⟨hP, hD⟩ := gp_join (wr := [((ma 200), mo_0 ma), ((ma 11), .inl (cy 3, 8, .inl (fun _ => 0))), ((ma 12), .inl (cy 1, 8, .inl (fun _ => 0))), ((ma 13), .inl (cy 1, 8, .inl (fun _ => 0))), ((ma 14), .inl (cy 3, 12, .inl (fun _ => 0))), ((ma 15), .inl (cy 1, 12, .inl (fun _ => 0))), ((ma 16), .inl (cy 1, 12, .inl (fun _ => 0))), ((ma 17), .inl (cy 1, 12, .inl (fun _ => 0))), ((ma 18), .inl (cy 1, 12, .inl (fun _ => 0))), ((ma 19), .inl (cy 3, 12, .inl (fun _ => 0))), ((ma 20), .inl (cy 3, 8, .inl (fun _ => 0))), ((ma 21), .inl (cy 1, 8, .inl (fun _ => 0))), ((ma 22), .inl (cy 1, 8, .inl (fun _ => 0))), ((ma 23), .inl (cy 1, 8, .inl (fun _ => 0))), ((ma 24), .inl (cy 1, 8, .inl (fun _ => 0))), ((ma 33), .inl (cy 1, 600, .inl (fun _ => 0))), ((ma 68), .inl (cy 1, 8, .inl (fun _ => 0))), ((ma 69), .inl (cy 1, 8, .inl (fun _ => 0))), ((ma 70), .inl (cy 1, 8, .inl (fun _ => 0))), ((ma 73), .inl (cy 1, 241, .inl (fun _ => 0))), ((ma 74), .inl (cy 1, 241, .inl (fun _ => 0))), ((ma 75), .inl (cy 1, 241, .inl (upd (fun _ => 0) 0 1))), ((ma 93), .inl (cy 1, 1000, .inl (fun _ => 0))), ((ma 94), .inl (cy 3, 1001, .inl (fun _ => 0))), ((ma 95), .inl (cy 1, 1000, .inl (fun _ => 0))), ((ma 97), .inl (cy 1, 101, .inl (fun _ => 0))), ((ma 98), .inl (cy 1, 101, .inl (fun _ => 0))), ((ma 99), .inl (cy 1, 101, .inl (fun _ => 0))), ((ma 100), .inl (cy 1, 101, .inl (fun _ => 0)))]) (w1 := []) hP hD [0, 11, 12, 15, 18] [67, 68, 69, 70, 71, 72, 73, 74, 75, 76, 77, 78, 79, 80, 81, 82, 83, 84, 85, 86, 87, 88, 89, 90, 91, 92, 93, 94, 95] rfl rfl (by decide) (by decide) hk1 hFc ht hB
  have hP : va_P D vwCl [((ma 200), mo_0 ma), ((ma 11), .inl (cy 3, 8, .inl (fun _ => 0))), ((ma 12), .inl (cy 1, 8, .inl (fun _ => 0))), ((ma 13), .inl (cy 1, 8, .inl (fun _ => 0))), ((ma 14), .inl (cy 3, 12, .inl (fun _ => 0))), ((ma 15), .inl (cy 1, 12, .inl (fun _ => 0))), ((ma 16), .inl (cy 1, 12, .inl (fun _ => 0))), ((ma 17), .inl (cy 1, 12, .inl (fun _ => 0))), ((ma 18), .inl (cy 1, 12, .inl (fun _ => 0))), ((ma 19), .inl (cy 3, 12, .inl (fun _ => 0))), ((ma 20), .inl (cy 3, 8, .inl (fun _ => 0))), ((ma 21), .inl (cy 1, 8, .inl (fun _ => 0))), ((ma 22), .inl (cy 1, 8, .inl (fun _ => 0))), ((ma 23), .inl (cy 1, 8, .inl (fun _ => 0))), ((ma 24), .inl (cy 1, 8, .inl (fun _ => 0))), ((ma 33), .inl (cy 1, 600, .inl (fun _ => 0))), ((ma 68), .inl (cy 1, 8, .inl (fun _ => 0))), ((ma 69), .inl (cy 1, 8, .inl (fun _ => 0))), ((ma 70), .inl (cy 1, 8, .inl (fun _ => 0))), ((ma 73), .inl (cy 1, 241, .inl (fun _ => 0))), ((ma 74), .inl (cy 1, 241, .inl (fun _ => 0))), ((ma 75), .inl (cy 1, 241, .inl (upd (fun _ => 0) 0 1))), ((ma 93), .inl (cy 1, 1000, .inl (fun _ => 0))), ((ma 94), .inl (cy 3, 1001, .inl (fun _ => 0))), ((ma 95), .inl (cy 1, 1000, .inl (fun _ => 0))), ((ma 97), .inl (cy 1, 101, .inl (fun _ => 0))), ((ma 98), .inl (cy 1, 101, .inl (fun _ => 0))), ((ma 99), .inl (cy 1, 101, .inl (fun _ => 0))), ((ma 100), .inl (cy 1, 101, .inl (fun _ => 0)))] H := hP
  have hD : va_D A [((ma 200), mo_0 ma), ((ma 11), .inl (cy 3, 8, .inl (fun _ => 0))), ((ma 12), .inl (cy 1, 8, .inl (fun _ => 0))), ((ma 13), .inl (cy 1, 8, .inl (fun _ => 0))), ((ma 14), .inl (cy 3, 12, .inl (fun _ => 0))), ((ma 15), .inl (cy 1, 12, .inl (fun _ => 0))), ((ma 16), .inl (cy 1, 12, .inl (fun _ => 0))), ((ma 17), .inl (cy 1, 12, .inl (fun _ => 0))), ((ma 18), .inl (cy 1, 12, .inl (fun _ => 0))), ((ma 19), .inl (cy 3, 12, .inl (fun _ => 0))), ((ma 20), .inl (cy 3, 8, .inl (fun _ => 0))), ((ma 21), .inl (cy 1, 8, .inl (fun _ => 0))), ((ma 22), .inl (cy 1, 8, .inl (fun _ => 0))), ((ma 23), .inl (cy 1, 8, .inl (fun _ => 0))), ((ma 24), .inl (cy 1, 8, .inl (fun _ => 0))), ((ma 33), .inl (cy 1, 600, .inl (fun _ => 0))), ((ma 68), .inl (cy 1, 8, .inl (fun _ => 0))), ((ma 69), .inl (cy 1, 8, .inl (fun _ => 0))), ((ma 70), .inl (cy 1, 8, .inl (fun _ => 0))), ((ma 73), .inl (cy 1, 241, .inl (fun _ => 0))), ((ma 74), .inl (cy 1, 241, .inl (fun _ => 0))), ((ma 75), .inl (cy 1, 241, .inl (upd (fun _ => 0) 0 1))), ((ma 93), .inl (cy 1, 1000, .inl (fun _ => 0))), ((ma 94), .inl (cy 3, 1001, .inl (fun _ => 0))), ((ma 95), .inl (cy 1, 1000, .inl (fun _ => 0))), ((ma 97), .inl (cy 1, 101, .inl (fun _ => 0))), ((ma 98), .inl (cy 1, 101, .inl (fun _ => 0))), ((ma 99), .inl (cy 1, 101, .inl (fun _ => 0))), ((ma 100), .inl (cy 1, 101, .inl (fun _ => 0)))] := hD
  obtain rfl : r_1 = 0 := hw
  refine lv_aload_n hx hb dL_law_626 rfl (lv_at hl 1 rfl) ?_
  refine lv_aload_n hx hb dL_law_627 rfl (lv_at hl 3 rfl) ?_
  refine lv_iload_n hx hb dL_law_628 rfl (lv_at hl 0 rfl) ?_
  refine lv_iconst (v := 1) hx hb dL_law_629 (by decide) ?_
  refine lv_iadd hx hb dL_law_630 ?_
  refine gp_ni 1 (by decide) ?_
  refine va_sld hx hb hX hbl hbA hS (by unfold vp_in; decide) dL_law_631 ?_
  refine gp_ni (xs 1) rfl ?_
  refine lv_aload_n hx hb dL_law_632 rfl (lv_at hl 3 rfl) ?_
  refine lv_iload_n hx hb dL_law_633 rfl (lv_at hl 0 rfl) ?_
  refine lv_iconst (v := 2) hx hb dL_law_634 (by decide) ?_
  refine lv_iadd hx hb dL_law_635 ?_
  refine gp_ni 2 (by decide) ?_
  refine va_sld hx hb hX hbl hbA hS (by unfold vp_in; decide) dL_law_636 ?_
  refine gp_ni (xs 2) rfl ?_
  have hPc := hP.sub (ws' := [((ma 200), mo_0 ma), ((ma 11), .inl (cy 3, 8, .inl (fun _ => 0))), ((ma 14), .inl (cy 3, 12, .inl (fun _ => 0))), ((ma 20), .inl (cy 3, 8, .inl (fun _ => 0)))]) [0, 1, 4, 10] rfl
  have hDc := hD.sub (ws' := [((ma 200), mo_0 ma), ((ma 11), .inl (cy 3, 8, .inl (fun _ => 0))), ((ma 14), .inl (cy 3, 12, .inl (fun _ => 0))), ((ma 20), .inl (cy 3, 8, .inl (fun _ => 0)))]) [0, 1, 4, 10] (by decide) rfl
  have hFc := va_free (wc := [((ma 200), mo_0 ma), ((ma 11), .inl (cy 3, 8, .inl (fun _ => 0))), ((ma 14), .inl (cy 3, 12, .inl (fun _ => 0))), ((ma 20), .inl (cy 3, 8, .inl (fun _ => 0)))]) hD hS hA [0, 1, 4, 10] rfl
  refine va_calli (va_runV (As := [.int (xs 1), .int (xs 2)]) (rest := [.int 0]) ⟨hx, hb, hml, hown, hts⟩ (kX12_gone l D cy H.size ma (xs 1) (xs 2)) (cwV 2 hts gc_kX12_gone rfl rfl rfl (by decide +kernel) ⟨Nat.le_of_ble_eq_true rfl, Nat.le_of_ble_eq_true rfl⟩) (gp_preV (RX12, TX12, 104) 12 0 hPc hDc hK hN rfl rfl) rfl rfl hl.1 rfl (lv_room (Nat.le_of_ble_eq_true rfl)) dL_law_637 ⟨Nat.le_of_ble_eq_true rfl, Nat.le_of_ble_eq_true rfl⟩) hS (fun q _ h => hFc q h) hFc (fun r_2 u t H locs ht hvm hw hB hz1 hk1 hS => ?_)
  obtain ⟨hP, hD⟩ := gp_join (wr := []) (w1 := []) hP hD [0, 1, 4, 10] [] rfl rfl (by decide) (by decide) hk1 hFc ht hB
  have hP : va_P D vwCl [] H := hP
  have hD : va_D A [] := hD
  obtain rfl : r_2 = 0 := hw
  refine lv_icmp_eq (tgt := 1364) hx hb dL_law_640 (by decide) (fun c_3 => ?_) (fun c_3 => absurd (by decide) c_3)
  refine lv_iinc (v := 7) (lv' := [(3, .int 7), (2, .ref (ma 200)), (1, .ref (xa 0)), (0, .ref b)]) hx hb dL_law_1364 hl (k := 0) rfl (by decide) (by decide) rfl (fun ls hl => ?_)
  refine lv_goto (tgt := 18) hx hb dL_law_1367 (by decide) ?_
  refine lv_iload_n hx hb dL_law_18 rfl (lv_at hl 0 rfl) ?_
  refine lv_aload_n hx hb dL_law_19 rfl (lv_at hl 3 rfl) ?_
  refine va_slen hx hb hX hbl hbA hS dL_law_20 ?_
  refine gp_ni 7 rfl ?_
  refine lv_bipush (v := 7) hx hb dL_law_21 (by decide) ?_
  refine lv_isub hx hb dL_law_23 ?_
  refine gp_ni 0 (by decide) ?_
  refine lv_icmp_gt (tgt := 1370) hx hb dL_law_24 (by decide) (fun c_4 => ?_) (fun c_4 => absurd (by decide) c_4)
  refine lv_iconst (v := 1) hx hb dL_law_1370 (by decide) ?_
  refine va_forget (fun q hq => hSA _ (hS.2.2 q hq)) ?_
  refine W.widen (k := 600000) (n := 7302250) (by decide) (by decide) ?_
  exact lw_ret hx hb hr hlocks dL_law_1371

set_option maxHeartbeats 4000000 in
set_option maxRecDepth 100000 in
theorem law_9 {p : Program} {e : Env} {s : State} {m : MethodId} {below : List Frame} {meth : Method} {c : Code} (l : Launch) {b : Nat} {xs : Nat → Int32} (C0 : lw_At p s m meth c b 7 xs) {D : va_G} {cy : Nat → ClassId} (hK : va_K D vwCl (gp_T cy) s) (hN : gp_N s) (xa ma : Nat → Nat) (fO : Nat → Option Nat) (hO : fO 0 = some (xa 6)) {A : Nat → Prop} (hAe : A = (fun q : Nat => s.heap.size ≤ q)) {H : Heap} {locs : List Loc} {ls : Array Slot} (hP : va_P D vwCl (lw_W cy xa ma fO) H) (hD : va_D A (lw_W cy xa ma fO)) (hS : va_S A s.heap H locs) (hl : lv_has ls 4 [(3, .int 0), (2, .ref (ma 200)), (1, .ref (xa 0)), (0, .ref b)]) : W p l e room_1 s m #[Value.ref b] below meth c H locs 153 14835 (lw_Z below #[Value.ref b] s) (F0 m 645 ls []) := by
  obtain ⟨hx, hb, hr, hml, hown, hts, hX, hbl, hlocks, hgv⟩ := id C0
  have hown : s.vm.findClass RL = some m.cls := hown
  have hA : ∀ q : Nat, s.heap.size ≤ q → A q := fun q h => by rw [hAe]; exact h
  have hbA : ¬ A b := by rw [hAe]; exact Nat.not_le.mpr hbl
  have hSA : ∀ q : Nat, A q → s.heap.size ≤ q := fun q h => by rw [hAe] at h; exact h
  refine lv_aload_n hx hb dL_law_645 rfl (lv_at hl 2 rfl) ?_
  refine lv_aload_n hx hb dL_law_646 rfl (lv_at hl 3 rfl) ?_
  refine lv_iload_n hx hb dL_law_647 rfl (lv_at hl 0 rfl) ?_
  refine lv_iconst (v := 1) hx hb dL_law_648 (by decide) ?_
  refine lv_iadd hx hb dL_law_649 ?_
  refine gp_ni 1 (by decide) ?_
  refine va_sld hx hb hX hbl hbA hS (by unfold vp_in; decide) dL_law_650 ?_
  refine gp_ni (xs 1) rfl ?_
  refine lv_aload_n hx hb dL_law_651 rfl (lv_at hl 3 rfl) ?_
  refine lv_iload_n hx hb dL_law_652 rfl (lv_at hl 0 rfl) ?_
  refine lv_iconst (v := 2) hx hb dL_law_653 (by decide) ?_
  refine lv_iadd hx hb dL_law_654 ?_
  refine gp_ni 2 (by decide) ?_
  refine va_sld hx hb hX hbl hbA hS (by unfold vp_in; decide) dL_law_655 ?_
  refine gp_ni (xs 2) rfl ?_
  refine lv_aload_n hx hb dL_law_656 rfl (lv_at hl 3 rfl) ?_
  refine lv_iload_n hx hb dL_law_657 rfl (lv_at hl 0 rfl) ?_
  refine lv_iconst (v := 3) hx hb dL_law_658 (by decide) ?_
  refine lv_iadd hx hb dL_law_659 ?_
  refine gp_ni 3 (by decide) ?_
  refine va_sld hx hb hX hbl hbA hS (by unfold vp_in; decide) dL_law_660 ?_
  refine gp_ni (xs 3) rfl ?_
  have hPc := hP.sub (ws' := [((xa 0), .inr (11, [.ref (xa 1), .ref (xa 3), .ref (xa 7), .ref (xa 11), .ref (xa 20), .ref (xa 24), .ref (xa 25), .ref (xa 29)])), ((xa 11), .inr (7, [.int (-50), .int 0, .int 50, .int 80, .int (-60), .int (-40), .int 60, .int (-40), .int 0, .int 4, .int 0, .ref (xa 12), .ref (xa 13), .ref (xa 14), .ref (xa 15), .ref (xa 16), .ref (xa 17), .ref (xa 18), .ref (xa 19)])), ((xa 15), .inl (cy 3, 12, .inl (fun _ => 0))), ((xa 16), .inl (cy 6, 12, .inr (.inr (.inr (.inr (fun i => if i < 12 then some (xa (100 + i)) else none)))))), ((xa 17), .inl (cy 3, 12, .inl (fun _ => 0))), ((xa 20), .inr (8, [.ref (xa 21), .int 0, .int 0, .int 0, .ref (xa 11), .ref (xa 7)])), ((xa 21), .inr (3, [.long 0, .int 0, .ref (xa 22), .ref (xa 23), .long 0, .long 0, .long 0, .long 0, .long 0, .long 0, .long 0, .long 0, .long 0, .long 0, .long 0, .long 0])), ((xa 22), .inl (cy 7, 12, .inr (.inr (.inr (.inr (fun i => if i < 12 then some (xa (140 + i)) else none)))))), ((xa 23), .inl (cy 3, 12, .inl (fun _ => 0))), ((xa 100), .inl (cy 1, 4, .inl (fun _ => 0))), ((xa 101), .inl (cy 1, 4, .inl (fun _ => 0))), ((xa 102), .inl (cy 1, 4, .inl (fun _ => 0))), ((xa 103), .inl (cy 1, 4, .inl (fun _ => 0))), ((xa 104), .inl (cy 1, 4, .inl (fun _ => 0))), ((xa 105), .inl (cy 1, 4, .inl (fun _ => 0))), ((xa 106), .inl (cy 1, 4, .inl (fun _ => 0))), ((xa 107), .inl (cy 1, 4, .inl (fun _ => 0))), ((xa 108), .inl (cy 1, 4, .inl (fun _ => 0))), ((xa 109), .inl (cy 1, 4, .inl (fun _ => 0))), ((xa 110), .inl (cy 1, 4, .inl (fun _ => 0))), ((xa 111), .inl (cy 1, 4, .inl (fun _ => 0))), ((xa 140), .inl (cy 2, 4, .inr (.inl (fun _ => 0)))), ((xa 141), .inl (cy 2, 4, .inr (.inl (fun _ => 0)))), ((xa 142), .inl (cy 2, 4, .inr (.inl (fun _ => 0)))), ((xa 143), .inl (cy 2, 4, .inr (.inl (fun _ => 0)))), ((xa 144), .inl (cy 2, 4, .inr (.inl (fun _ => 0)))), ((xa 145), .inl (cy 2, 4, .inr (.inl (fun _ => 0)))), ((xa 146), .inl (cy 2, 4, .inr (.inl (fun _ => 0)))), ((xa 147), .inl (cy 2, 4, .inr (.inl (fun _ => 0)))), ((xa 148), .inl (cy 2, 4, .inr (.inl (fun _ => 0)))), ((xa 149), .inl (cy 2, 4, .inr (.inl (fun _ => 0)))), ((xa 150), .inl (cy 2, 4, .inr (.inl (fun _ => 0)))), ((xa 151), .inl (cy 2, 4, .inr (.inl (fun _ => 0))))]) [0, 11, 15, 16, 17, 20, 21, 22, 23, 35, 36, 37, 38, 39, 40, 41, 42, 43, 44, 45, 46, 55, 56, 57, 58, 59, 60, 61, 62, 63, 64, 65, 66] rfl
  have hDc := hD.sub (ws' := [((xa 0), .inr (11, [.ref (xa 1), .ref (xa 3), .ref (xa 7), .ref (xa 11), .ref (xa 20), .ref (xa 24), .ref (xa 25), .ref (xa 29)])), ((xa 11), .inr (7, [.int (-50), .int 0, .int 50, .int 80, .int (-60), .int (-40), .int 60, .int (-40), .int 0, .int 4, .int 0, .ref (xa 12), .ref (xa 13), .ref (xa 14), .ref (xa 15), .ref (xa 16), .ref (xa 17), .ref (xa 18), .ref (xa 19)])), ((xa 15), .inl (cy 3, 12, .inl (fun _ => 0))), ((xa 16), .inl (cy 6, 12, .inr (.inr (.inr (.inr (fun i => if i < 12 then some (xa (100 + i)) else none)))))), ((xa 17), .inl (cy 3, 12, .inl (fun _ => 0))), ((xa 20), .inr (8, [.ref (xa 21), .int 0, .int 0, .int 0, .ref (xa 11), .ref (xa 7)])), ((xa 21), .inr (3, [.long 0, .int 0, .ref (xa 22), .ref (xa 23), .long 0, .long 0, .long 0, .long 0, .long 0, .long 0, .long 0, .long 0, .long 0, .long 0, .long 0, .long 0])), ((xa 22), .inl (cy 7, 12, .inr (.inr (.inr (.inr (fun i => if i < 12 then some (xa (140 + i)) else none)))))), ((xa 23), .inl (cy 3, 12, .inl (fun _ => 0))), ((xa 100), .inl (cy 1, 4, .inl (fun _ => 0))), ((xa 101), .inl (cy 1, 4, .inl (fun _ => 0))), ((xa 102), .inl (cy 1, 4, .inl (fun _ => 0))), ((xa 103), .inl (cy 1, 4, .inl (fun _ => 0))), ((xa 104), .inl (cy 1, 4, .inl (fun _ => 0))), ((xa 105), .inl (cy 1, 4, .inl (fun _ => 0))), ((xa 106), .inl (cy 1, 4, .inl (fun _ => 0))), ((xa 107), .inl (cy 1, 4, .inl (fun _ => 0))), ((xa 108), .inl (cy 1, 4, .inl (fun _ => 0))), ((xa 109), .inl (cy 1, 4, .inl (fun _ => 0))), ((xa 110), .inl (cy 1, 4, .inl (fun _ => 0))), ((xa 111), .inl (cy 1, 4, .inl (fun _ => 0))), ((xa 140), .inl (cy 2, 4, .inr (.inl (fun _ => 0)))), ((xa 141), .inl (cy 2, 4, .inr (.inl (fun _ => 0)))), ((xa 142), .inl (cy 2, 4, .inr (.inl (fun _ => 0)))), ((xa 143), .inl (cy 2, 4, .inr (.inl (fun _ => 0)))), ((xa 144), .inl (cy 2, 4, .inr (.inl (fun _ => 0)))), ((xa 145), .inl (cy 2, 4, .inr (.inl (fun _ => 0)))), ((xa 146), .inl (cy 2, 4, .inr (.inl (fun _ => 0)))), ((xa 147), .inl (cy 2, 4, .inr (.inl (fun _ => 0)))), ((xa 148), .inl (cy 2, 4, .inr (.inl (fun _ => 0)))), ((xa 149), .inl (cy 2, 4, .inr (.inl (fun _ => 0)))), ((xa 150), .inl (cy 2, 4, .inr (.inl (fun _ => 0)))), ((xa 151), .inl (cy 2, 4, .inr (.inl (fun _ => 0))))]) [0, 11, 15, 16, 17, 20, 21, 22, 23, 35, 36, 37, 38, 39, 40, 41, 42, 43, 44, 45, 46, 55, 56, 57, 58, 59, 60, 61, 62, 63, 64, 65, 66] (by decide) rfl
  have hFc := va_free (wc := [((xa 0), .inr (11, [.ref (xa 1), .ref (xa 3), .ref (xa 7), .ref (xa 11), .ref (xa 20), .ref (xa 24), .ref (xa 25), .ref (xa 29)])), ((xa 11), .inr (7, [.int (-50), .int 0, .int 50, .int 80, .int (-60), .int (-40), .int 60, .int (-40), .int 0, .int 4, .int 0, .ref (xa 12), .ref (xa 13), .ref (xa 14), .ref (xa 15), .ref (xa 16), .ref (xa 17), .ref (xa 18), .ref (xa 19)])), ((xa 15), .inl (cy 3, 12, .inl (fun _ => 0))), ((xa 16), .inl (cy 6, 12, .inr (.inr (.inr (.inr (fun i => if i < 12 then some (xa (100 + i)) else none)))))), ((xa 17), .inl (cy 3, 12, .inl (fun _ => 0))), ((xa 20), .inr (8, [.ref (xa 21), .int 0, .int 0, .int 0, .ref (xa 11), .ref (xa 7)])), ((xa 21), .inr (3, [.long 0, .int 0, .ref (xa 22), .ref (xa 23), .long 0, .long 0, .long 0, .long 0, .long 0, .long 0, .long 0, .long 0, .long 0, .long 0, .long 0, .long 0])), ((xa 22), .inl (cy 7, 12, .inr (.inr (.inr (.inr (fun i => if i < 12 then some (xa (140 + i)) else none)))))), ((xa 23), .inl (cy 3, 12, .inl (fun _ => 0))), ((xa 100), .inl (cy 1, 4, .inl (fun _ => 0))), ((xa 101), .inl (cy 1, 4, .inl (fun _ => 0))), ((xa 102), .inl (cy 1, 4, .inl (fun _ => 0))), ((xa 103), .inl (cy 1, 4, .inl (fun _ => 0))), ((xa 104), .inl (cy 1, 4, .inl (fun _ => 0))), ((xa 105), .inl (cy 1, 4, .inl (fun _ => 0))), ((xa 106), .inl (cy 1, 4, .inl (fun _ => 0))), ((xa 107), .inl (cy 1, 4, .inl (fun _ => 0))), ((xa 108), .inl (cy 1, 4, .inl (fun _ => 0))), ((xa 109), .inl (cy 1, 4, .inl (fun _ => 0))), ((xa 110), .inl (cy 1, 4, .inl (fun _ => 0))), ((xa 111), .inl (cy 1, 4, .inl (fun _ => 0))), ((xa 140), .inl (cy 2, 4, .inr (.inl (fun _ => 0)))), ((xa 141), .inl (cy 2, 4, .inr (.inl (fun _ => 0)))), ((xa 142), .inl (cy 2, 4, .inr (.inl (fun _ => 0)))), ((xa 143), .inl (cy 2, 4, .inr (.inl (fun _ => 0)))), ((xa 144), .inl (cy 2, 4, .inr (.inl (fun _ => 0)))), ((xa 145), .inl (cy 2, 4, .inr (.inl (fun _ => 0)))), ((xa 146), .inl (cy 2, 4, .inr (.inl (fun _ => 0)))), ((xa 147), .inl (cy 2, 4, .inr (.inl (fun _ => 0)))), ((xa 148), .inl (cy 2, 4, .inr (.inl (fun _ => 0)))), ((xa 149), .inl (cy 2, 4, .inr (.inl (fun _ => 0)))), ((xa 150), .inl (cy 2, 4, .inr (.inl (fun _ => 0)))), ((xa 151), .inl (cy 2, 4, .inr (.inl (fun _ => 0))))]) hD hS hA [0, 11, 15, 16, 17, 20, 21, 22, 23, 35, 36, 37, 38, 39, 40, 41, 42, 43, 44, 45, 46, 55, 56, 57, 58, 59, 60, 61, 62, 63, 64, 65, 66] rfl
  refine va_calll (va_runV (As := [.int (xs 1), .int (xs 2), .int (xs 3)]) (rest := []) ⟨hx, hb, hml, hown, hts⟩ (kX11_of l D cy H.size xa (xs 1) (xs 2) (xs 3)) (cwV 3 hts gc_kX11_of rfl rfl rfl (by decide +kernel) ⟨Nat.le_of_ble_eq_true rfl, Nat.le_of_ble_eq_true rfl⟩) (gp_preV (RX11, TX11, 8) 11 0 hPc hDc hK hN rfl rfl) rfl rfl hl.1 rfl (lv_room (Nat.le_of_ble_eq_true rfl)) dL_law_661 ⟨Nat.le_of_ble_eq_true rfl, Nat.le_of_ble_eq_true rfl⟩) hS (fun q _ h => hFc q h) hFc (fun r_1 u t H locs ht hvm hw hB hz1 hk1 hS => ?_)
  obtain ⟨hP, hD⟩ := gp_join (wr := [((ma 200), mo_0 ma), ((ma 11), .inl (cy 3, 8, .inl (fun _ => 0))), ((ma 12), .inl (cy 1, 8, .inl (fun _ => 0))), ((ma 13), .inl (cy 1, 8, .inl (fun _ => 0))), ((ma 14), .inl (cy 3, 12, .inl (fun _ => 0))), ((ma 15), .inl (cy 1, 12, .inl (fun _ => 0))), ((ma 16), .inl (cy 1, 12, .inl (fun _ => 0))), ((ma 17), .inl (cy 1, 12, .inl (fun _ => 0))), ((ma 18), .inl (cy 1, 12, .inl (fun _ => 0))), ((ma 19), .inl (cy 3, 12, .inl (fun _ => 0))), ((ma 20), .inl (cy 3, 8, .inl (fun _ => 0))), ((ma 21), .inl (cy 1, 8, .inl (fun _ => 0))), ((ma 22), .inl (cy 1, 8, .inl (fun _ => 0))), ((ma 23), .inl (cy 1, 8, .inl (fun _ => 0))), ((ma 24), .inl (cy 1, 8, .inl (fun _ => 0))), ((ma 33), .inl (cy 1, 600, .inl (fun _ => 0))), ((ma 68), .inl (cy 1, 8, .inl (fun _ => 0))), ((ma 69), .inl (cy 1, 8, .inl (fun _ => 0))), ((ma 70), .inl (cy 1, 8, .inl (fun _ => 0))), ((ma 73), .inl (cy 1, 241, .inl (fun _ => 0))), ((ma 74), .inl (cy 1, 241, .inl (fun _ => 0))), ((ma 75), .inl (cy 1, 241, .inl (upd (fun _ => 0) 0 1))), ((ma 93), .inl (cy 1, 1000, .inl (fun _ => 0))), ((ma 94), .inl (cy 3, 1001, .inl (fun _ => 0))), ((ma 95), .inl (cy 1, 1000, .inl (fun _ => 0))), ((ma 97), .inl (cy 1, 101, .inl (fun _ => 0))), ((ma 98), .inl (cy 1, 101, .inl (fun _ => 0))), ((ma 99), .inl (cy 1, 101, .inl (fun _ => 0))), ((ma 100), .inl (cy 1, 101, .inl (fun _ => 0)))]) (w1 := []) hP hD [0, 11, 15, 16, 17, 20, 21, 22, 23, 35, 36, 37, 38, 39, 40, 41, 42, 43, 44, 45, 46, 55, 56, 57, 58, 59, 60, 61, 62, 63, 64, 65, 66] [67, 68, 69, 70, 71, 72, 73, 74, 75, 76, 77, 78, 79, 80, 81, 82, 83, 84, 85, 86, 87, 88, 89, 90, 91, 92, 93, 94, 95] rfl rfl (by decide) (by decide) hk1 hFc ht hB
  have hP : va_P D vwCl [((ma 200), mo_0 ma), ((ma 11), .inl (cy 3, 8, .inl (fun _ => 0))), ((ma 12), .inl (cy 1, 8, .inl (fun _ => 0))), ((ma 13), .inl (cy 1, 8, .inl (fun _ => 0))), ((ma 14), .inl (cy 3, 12, .inl (fun _ => 0))), ((ma 15), .inl (cy 1, 12, .inl (fun _ => 0))), ((ma 16), .inl (cy 1, 12, .inl (fun _ => 0))), ((ma 17), .inl (cy 1, 12, .inl (fun _ => 0))), ((ma 18), .inl (cy 1, 12, .inl (fun _ => 0))), ((ma 19), .inl (cy 3, 12, .inl (fun _ => 0))), ((ma 20), .inl (cy 3, 8, .inl (fun _ => 0))), ((ma 21), .inl (cy 1, 8, .inl (fun _ => 0))), ((ma 22), .inl (cy 1, 8, .inl (fun _ => 0))), ((ma 23), .inl (cy 1, 8, .inl (fun _ => 0))), ((ma 24), .inl (cy 1, 8, .inl (fun _ => 0))), ((ma 33), .inl (cy 1, 600, .inl (fun _ => 0))), ((ma 68), .inl (cy 1, 8, .inl (fun _ => 0))), ((ma 69), .inl (cy 1, 8, .inl (fun _ => 0))), ((ma 70), .inl (cy 1, 8, .inl (fun _ => 0))), ((ma 73), .inl (cy 1, 241, .inl (fun _ => 0))), ((ma 74), .inl (cy 1, 241, .inl (fun _ => 0))), ((ma 75), .inl (cy 1, 241, .inl (upd (fun _ => 0) 0 1))), ((ma 93), .inl (cy 1, 1000, .inl (fun _ => 0))), ((ma 94), .inl (cy 3, 1001, .inl (fun _ => 0))), ((ma 95), .inl (cy 1, 1000, .inl (fun _ => 0))), ((ma 97), .inl (cy 1, 101, .inl (fun _ => 0))), ((ma 98), .inl (cy 1, 101, .inl (fun _ => 0))), ((ma 99), .inl (cy 1, 101, .inl (fun _ => 0))), ((ma 100), .inl (cy 1, 101, .inl (fun _ => 0)))] H := hP
  have hD : va_D A [((ma 200), mo_0 ma), ((ma 11), .inl (cy 3, 8, .inl (fun _ => 0))), ((ma 12), .inl (cy 1, 8, .inl (fun _ => 0))), ((ma 13), .inl (cy 1, 8, .inl (fun _ => 0))), ((ma 14), .inl (cy 3, 12, .inl (fun _ => 0))), ((ma 15), .inl (cy 1, 12, .inl (fun _ => 0))), ((ma 16), .inl (cy 1, 12, .inl (fun _ => 0))), ((ma 17), .inl (cy 1, 12, .inl (fun _ => 0))), ((ma 18), .inl (cy 1, 12, .inl (fun _ => 0))), ((ma 19), .inl (cy 3, 12, .inl (fun _ => 0))), ((ma 20), .inl (cy 3, 8, .inl (fun _ => 0))), ((ma 21), .inl (cy 1, 8, .inl (fun _ => 0))), ((ma 22), .inl (cy 1, 8, .inl (fun _ => 0))), ((ma 23), .inl (cy 1, 8, .inl (fun _ => 0))), ((ma 24), .inl (cy 1, 8, .inl (fun _ => 0))), ((ma 33), .inl (cy 1, 600, .inl (fun _ => 0))), ((ma 68), .inl (cy 1, 8, .inl (fun _ => 0))), ((ma 69), .inl (cy 1, 8, .inl (fun _ => 0))), ((ma 70), .inl (cy 1, 8, .inl (fun _ => 0))), ((ma 73), .inl (cy 1, 241, .inl (fun _ => 0))), ((ma 74), .inl (cy 1, 241, .inl (fun _ => 0))), ((ma 75), .inl (cy 1, 241, .inl (upd (fun _ => 0) 0 1))), ((ma 93), .inl (cy 1, 1000, .inl (fun _ => 0))), ((ma 94), .inl (cy 3, 1001, .inl (fun _ => 0))), ((ma 95), .inl (cy 1, 1000, .inl (fun _ => 0))), ((ma 97), .inl (cy 1, 101, .inl (fun _ => 0))), ((ma 98), .inl (cy 1, 101, .inl (fun _ => 0))), ((ma 99), .inl (cy 1, 101, .inl (fun _ => 0))), ((ma 100), .inl (cy 1, 101, .inl (fun _ => 0)))] := hD
  obtain rfl : r_1 = (if sp_far (xs 1) (xs 2) then sp_of (xs 1) (xs 2) (xs 3) else (-100000000)) := hw
  refine lv_aload_n hx hb dL_law_664 rfl (lv_at hl 1 rfl) ?_
  refine lv_aload_n hx hb dL_law_665 rfl (lv_at hl 3 rfl) ?_
  refine lv_iload_n hx hb dL_law_666 rfl (lv_at hl 0 rfl) ?_
  refine lv_iconst (v := 1) hx hb dL_law_667 (by decide) ?_
  refine lv_iadd hx hb dL_law_668 ?_
  refine gp_ni 1 (by decide) ?_
  refine va_sld hx hb hX hbl hbA hS (by unfold vp_in; decide) dL_law_669 ?_
  refine gp_ni (xs 1) rfl ?_
  refine lv_aload_n hx hb dL_law_670 rfl (lv_at hl 3 rfl) ?_
  refine lv_iload_n hx hb dL_law_671 rfl (lv_at hl 0 rfl) ?_
  refine lv_iconst (v := 2) hx hb dL_law_672 (by decide) ?_
  refine lv_iadd hx hb dL_law_673 ?_
  refine gp_ni 2 (by decide) ?_
  refine va_sld hx hb hX hbl hbA hS (by unfold vp_in; decide) dL_law_674 ?_
  refine gp_ni (xs 2) rfl ?_
  refine lv_aload_n hx hb dL_law_675 rfl (lv_at hl 3 rfl) ?_
  refine lv_iload_n hx hb dL_law_676 rfl (lv_at hl 0 rfl) ?_
  refine lv_iconst (v := 3) hx hb dL_law_677 (by decide) ?_
  refine lv_iadd hx hb dL_law_678 ?_
  refine gp_ni 3 (by decide) ?_
  refine va_sld hx hb hX hbl hbA hS (by unfold vp_in; decide) dL_law_679 ?_
  refine gp_ni (xs 3) rfl ?_
  have hPc := hP.sub (ws' := [((ma 200), mo_0 ma)]) [0] rfl
  have hDc := hD.sub (ws' := [((ma 200), mo_0 ma)]) [0] (by decide) rfl
  have hFc := va_free (wc := [((ma 200), mo_0 ma)]) hD hS hA [0] rfl
  refine va_calll (va_runV (As := [.int (xs 1), .int (xs 2), .int (xs 3)]) (rest := [.long (if sp_far (xs 1) (xs 2) then sp_of (xs 1) (xs 2) (xs 3) else (-100000000))]) ⟨hx, hb, hml, hown, hts⟩ (kX12_of l D cy H.size ma (xs 1) (xs 2) (xs 3)) (cwV 3 hts gc_kX12_of rfl rfl rfl (by decide +kernel) ⟨Nat.le_of_ble_eq_true rfl, Nat.le_of_ble_eq_true rfl⟩) (gp_preV (RX12, TX12, 104) 12 0 hPc hDc hK hN rfl rfl) rfl rfl hl.1 rfl (lv_room (Nat.le_of_ble_eq_true rfl)) dL_law_680 ⟨Nat.le_of_ble_eq_true rfl, Nat.le_of_ble_eq_true rfl⟩) hS (fun q _ h => hFc q h) hFc (fun r_2 u t H locs ht hvm hw hB hz1 hk1 hS => ?_)
  obtain ⟨hP, hD⟩ := gp_join (wr := []) (w1 := []) hP hD [0] [] rfl rfl (by decide) (by decide) hk1 hFc ht hB
  have hP : va_P D vwCl [] H := hP
  have hD : va_D A [] := hD
  obtain rfl : r_2 = (if sp_far (xs 1) (xs 2) then sp_of (xs 1) (xs 2) (xs 3) else (-100000000)) := hw
  refine W.lcmp hx hb dL_law_683 ?_
  refine lv_if_eq (tgt := 1364) hx hb dL_law_684 (by decide) (fun c_3 => ?_) (fun c_3 => absurd ((lg_cmp_eq _ _).mpr rfl) c_3)
  refine lv_iinc (v := 7) (lv' := [(3, .int 7), (2, .ref (ma 200)), (1, .ref (xa 0)), (0, .ref b)]) hx hb dL_law_1364 hl (k := 0) rfl (by decide) (by decide) rfl (fun ls hl => ?_)
  refine lv_goto (tgt := 18) hx hb dL_law_1367 (by decide) ?_
  refine lv_iload_n hx hb dL_law_18 rfl (lv_at hl 0 rfl) ?_
  refine lv_aload_n hx hb dL_law_19 rfl (lv_at hl 3 rfl) ?_
  refine va_slen hx hb hX hbl hbA hS dL_law_20 ?_
  refine gp_ni 7 rfl ?_
  refine lv_bipush (v := 7) hx hb dL_law_21 (by decide) ?_
  refine lv_isub hx hb dL_law_23 ?_
  refine gp_ni 0 (by decide) ?_
  refine lv_icmp_gt (tgt := 1370) hx hb dL_law_24 (by decide) (fun c_4 => ?_) (fun c_4 => absurd (by decide) c_4)
  refine lv_iconst (v := 1) hx hb dL_law_1370 (by decide) ?_
  refine va_forget (fun q hq => hSA _ (hS.2.2 q hq)) ?_
  refine W.widen (k := 600000) (n := 7302250) (by decide) (by decide) ?_
  exact lw_ret hx hb hr hlocks dL_law_1371

set_option maxHeartbeats 4000000 in
set_option maxRecDepth 100000 in
theorem law_10 {p : Program} {e : Env} {s : State} {m : MethodId} {below : List Frame} {meth : Method} {c : Code} (l : Launch) {b : Nat} {xs : Nat → Int32} (C0 : lw_At p s m meth c b 7 xs) {D : va_G} {cy : Nat → ClassId} (hK : va_K D vwCl (gp_T cy) s) (hN : gp_N s) (xa ma : Nat → Nat) (fO : Nat → Option Nat) (hO : fO 0 = some (xa 6)) {A : Nat → Prop} (hAe : A = (fun q : Nat => s.heap.size ≤ q)) {H : Heap} {locs : List Loc} {ls : Array Slot} (hP : va_P D vwCl (lw_W cy xa ma fO) H) (hD : va_D A (lw_W cy xa ma fO)) (hS : va_S A s.heap H locs) (hl : lv_has ls 4 [(3, .int 0), (2, .ref (ma 200)), (1, .ref (xa 0)), (0, .ref b)]) : W p l e room_1 s m #[Value.ref b] below meth c H locs 153 14835 (lw_Z below #[Value.ref b] s) (F0 m 689 ls []) := by
  obtain ⟨hx, hb, hr, hml, hown, hts, hX, hbl, hlocks, hgv⟩ := id C0
  have hown : s.vm.findClass RL = some m.cls := hown
  have hA : ∀ q : Nat, s.heap.size ≤ q → A q := fun q h => by rw [hAe]; exact h
  have hbA : ¬ A b := by rw [hAe]; exact Nat.not_le.mpr hbl
  have hSA : ∀ q : Nat, A q → s.heap.size ≤ q := fun q h => by rw [hAe] at h; exact h
  refine lv_aload_n hx hb dL_law_689 rfl (lv_at hl 2 rfl) ?_
  refine lv_aload_n hx hb dL_law_690 rfl (lv_at hl 3 rfl) ?_
  refine lv_iload_n hx hb dL_law_691 rfl (lv_at hl 0 rfl) ?_
  refine lv_iconst (v := 1) hx hb dL_law_692 (by decide) ?_
  refine lv_iadd hx hb dL_law_693 ?_
  refine gp_ni 1 (by decide) ?_
  refine va_sld hx hb hX hbl hbA hS (by unfold vp_in; decide) dL_law_694 ?_
  refine gp_ni (xs 1) rfl ?_
  refine lv_aload_n hx hb dL_law_695 rfl (lv_at hl 3 rfl) ?_
  refine lv_iload_n hx hb dL_law_696 rfl (lv_at hl 0 rfl) ?_
  refine lv_iconst (v := 2) hx hb dL_law_697 (by decide) ?_
  refine lv_iadd hx hb dL_law_698 ?_
  refine gp_ni 2 (by decide) ?_
  refine va_sld hx hb hX hbl hbA hS (by unfold vp_in; decide) dL_law_699 ?_
  refine gp_ni (xs 2) rfl ?_
  refine lv_aload_n hx hb dL_law_700 rfl (lv_at hl 3 rfl) ?_
  refine lv_iload_n hx hb dL_law_701 rfl (lv_at hl 0 rfl) ?_
  refine lv_iconst (v := 3) hx hb dL_law_702 (by decide) ?_
  refine lv_iadd hx hb dL_law_703 ?_
  refine gp_ni 3 (by decide) ?_
  refine va_sld hx hb hX hbl hbA hS (by unfold vp_in; decide) dL_law_704 ?_
  refine gp_ni (xs 3) rfl ?_
  have hPc := hP.sub (ws' := [((xa 0), .inr (11, [.ref (xa 1), .ref (xa 3), .ref (xa 7), .ref (xa 11), .ref (xa 20), .ref (xa 24), .ref (xa 25), .ref (xa 29)])), ((xa 11), .inr (7, [.int (-50), .int 0, .int 50, .int 80, .int (-60), .int (-40), .int 60, .int (-40), .int 0, .int 4, .int 0, .ref (xa 12), .ref (xa 13), .ref (xa 14), .ref (xa 15), .ref (xa 16), .ref (xa 17), .ref (xa 18), .ref (xa 19)])), ((xa 12), .inl (cy 3, 8, .inl (fun _ => 0)))]) [0, 11, 12] rfl
  have hDc := hD.sub (ws' := [((xa 0), .inr (11, [.ref (xa 1), .ref (xa 3), .ref (xa 7), .ref (xa 11), .ref (xa 20), .ref (xa 24), .ref (xa 25), .ref (xa 29)])), ((xa 11), .inr (7, [.int (-50), .int 0, .int 50, .int 80, .int (-60), .int (-40), .int 60, .int (-40), .int 0, .int 4, .int 0, .ref (xa 12), .ref (xa 13), .ref (xa 14), .ref (xa 15), .ref (xa 16), .ref (xa 17), .ref (xa 18), .ref (xa 19)])), ((xa 12), .inl (cy 3, 8, .inl (fun _ => 0)))]) [0, 11, 12] (by decide) rfl
  have hFc := va_free (wc := [((xa 0), .inr (11, [.ref (xa 1), .ref (xa 3), .ref (xa 7), .ref (xa 11), .ref (xa 20), .ref (xa 24), .ref (xa 25), .ref (xa 29)])), ((xa 11), .inr (7, [.int (-50), .int 0, .int 50, .int 80, .int (-60), .int (-40), .int 60, .int (-40), .int 0, .int 4, .int 0, .ref (xa 12), .ref (xa 13), .ref (xa 14), .ref (xa 15), .ref (xa 16), .ref (xa 17), .ref (xa 18), .ref (xa 19)])), ((xa 12), .inl (cy 3, 8, .inl (fun _ => 0)))]) hD hS hA [0, 11, 12] rfl
  refine va_calli (va_runV (As := [.int (xs 1), .int (xs 2), .int (xs 3)]) (rest := []) ⟨hx, hb, hml, hown, hts⟩ (kX11_sees l D cy H.size xa (xs 1) (xs 2) (xs 3)) (cwV 3 hts gc_kX11_sees rfl rfl rfl (by decide +kernel) ⟨Nat.le_of_ble_eq_true rfl, Nat.le_of_ble_eq_true rfl⟩) (gp_preV (RX11, TX11, 8) 11 0 hPc hDc hK hN rfl rfl) rfl rfl hl.1 rfl (lv_room (Nat.le_of_ble_eq_true rfl)) dL_law_705 ⟨Nat.le_of_ble_eq_true rfl, Nat.le_of_ble_eq_true rfl⟩) hS (fun q _ h => hFc q h) hFc (fun r_1 u t H locs ht hvm hw hB hz1 hk1 hS => ?_)
  obtain ⟨hP, hD⟩ := gp_join (wr := [((ma 200), mo_0 ma), ((ma 11), .inl (cy 3, 8, .inl (fun _ => 0))), ((ma 12), .inl (cy 1, 8, .inl (fun _ => 0))), ((ma 13), .inl (cy 1, 8, .inl (fun _ => 0))), ((ma 14), .inl (cy 3, 12, .inl (fun _ => 0))), ((ma 15), .inl (cy 1, 12, .inl (fun _ => 0))), ((ma 16), .inl (cy 1, 12, .inl (fun _ => 0))), ((ma 17), .inl (cy 1, 12, .inl (fun _ => 0))), ((ma 18), .inl (cy 1, 12, .inl (fun _ => 0))), ((ma 19), .inl (cy 3, 12, .inl (fun _ => 0))), ((ma 20), .inl (cy 3, 8, .inl (fun _ => 0))), ((ma 21), .inl (cy 1, 8, .inl (fun _ => 0))), ((ma 22), .inl (cy 1, 8, .inl (fun _ => 0))), ((ma 23), .inl (cy 1, 8, .inl (fun _ => 0))), ((ma 24), .inl (cy 1, 8, .inl (fun _ => 0))), ((ma 33), .inl (cy 1, 600, .inl (fun _ => 0))), ((ma 68), .inl (cy 1, 8, .inl (fun _ => 0))), ((ma 69), .inl (cy 1, 8, .inl (fun _ => 0))), ((ma 70), .inl (cy 1, 8, .inl (fun _ => 0))), ((ma 73), .inl (cy 1, 241, .inl (fun _ => 0))), ((ma 74), .inl (cy 1, 241, .inl (fun _ => 0))), ((ma 75), .inl (cy 1, 241, .inl (upd (fun _ => 0) 0 1))), ((ma 93), .inl (cy 1, 1000, .inl (fun _ => 0))), ((ma 94), .inl (cy 3, 1001, .inl (fun _ => 0))), ((ma 95), .inl (cy 1, 1000, .inl (fun _ => 0))), ((ma 97), .inl (cy 1, 101, .inl (fun _ => 0))), ((ma 98), .inl (cy 1, 101, .inl (fun _ => 0))), ((ma 99), .inl (cy 1, 101, .inl (fun _ => 0))), ((ma 100), .inl (cy 1, 101, .inl (fun _ => 0)))]) (w1 := []) hP hD [0, 11, 12] [67, 68, 69, 70, 71, 72, 73, 74, 75, 76, 77, 78, 79, 80, 81, 82, 83, 84, 85, 86, 87, 88, 89, 90, 91, 92, 93, 94, 95] rfl rfl (by decide) (by decide) hk1 hFc ht hB
  have hP : va_P D vwCl [((ma 200), mo_0 ma), ((ma 11), .inl (cy 3, 8, .inl (fun _ => 0))), ((ma 12), .inl (cy 1, 8, .inl (fun _ => 0))), ((ma 13), .inl (cy 1, 8, .inl (fun _ => 0))), ((ma 14), .inl (cy 3, 12, .inl (fun _ => 0))), ((ma 15), .inl (cy 1, 12, .inl (fun _ => 0))), ((ma 16), .inl (cy 1, 12, .inl (fun _ => 0))), ((ma 17), .inl (cy 1, 12, .inl (fun _ => 0))), ((ma 18), .inl (cy 1, 12, .inl (fun _ => 0))), ((ma 19), .inl (cy 3, 12, .inl (fun _ => 0))), ((ma 20), .inl (cy 3, 8, .inl (fun _ => 0))), ((ma 21), .inl (cy 1, 8, .inl (fun _ => 0))), ((ma 22), .inl (cy 1, 8, .inl (fun _ => 0))), ((ma 23), .inl (cy 1, 8, .inl (fun _ => 0))), ((ma 24), .inl (cy 1, 8, .inl (fun _ => 0))), ((ma 33), .inl (cy 1, 600, .inl (fun _ => 0))), ((ma 68), .inl (cy 1, 8, .inl (fun _ => 0))), ((ma 69), .inl (cy 1, 8, .inl (fun _ => 0))), ((ma 70), .inl (cy 1, 8, .inl (fun _ => 0))), ((ma 73), .inl (cy 1, 241, .inl (fun _ => 0))), ((ma 74), .inl (cy 1, 241, .inl (fun _ => 0))), ((ma 75), .inl (cy 1, 241, .inl (upd (fun _ => 0) 0 1))), ((ma 93), .inl (cy 1, 1000, .inl (fun _ => 0))), ((ma 94), .inl (cy 3, 1001, .inl (fun _ => 0))), ((ma 95), .inl (cy 1, 1000, .inl (fun _ => 0))), ((ma 97), .inl (cy 1, 101, .inl (fun _ => 0))), ((ma 98), .inl (cy 1, 101, .inl (fun _ => 0))), ((ma 99), .inl (cy 1, 101, .inl (fun _ => 0))), ((ma 100), .inl (cy 1, 101, .inl (fun _ => 0)))] H := hP
  have hD : va_D A [((ma 200), mo_0 ma), ((ma 11), .inl (cy 3, 8, .inl (fun _ => 0))), ((ma 12), .inl (cy 1, 8, .inl (fun _ => 0))), ((ma 13), .inl (cy 1, 8, .inl (fun _ => 0))), ((ma 14), .inl (cy 3, 12, .inl (fun _ => 0))), ((ma 15), .inl (cy 1, 12, .inl (fun _ => 0))), ((ma 16), .inl (cy 1, 12, .inl (fun _ => 0))), ((ma 17), .inl (cy 1, 12, .inl (fun _ => 0))), ((ma 18), .inl (cy 1, 12, .inl (fun _ => 0))), ((ma 19), .inl (cy 3, 12, .inl (fun _ => 0))), ((ma 20), .inl (cy 3, 8, .inl (fun _ => 0))), ((ma 21), .inl (cy 1, 8, .inl (fun _ => 0))), ((ma 22), .inl (cy 1, 8, .inl (fun _ => 0))), ((ma 23), .inl (cy 1, 8, .inl (fun _ => 0))), ((ma 24), .inl (cy 1, 8, .inl (fun _ => 0))), ((ma 33), .inl (cy 1, 600, .inl (fun _ => 0))), ((ma 68), .inl (cy 1, 8, .inl (fun _ => 0))), ((ma 69), .inl (cy 1, 8, .inl (fun _ => 0))), ((ma 70), .inl (cy 1, 8, .inl (fun _ => 0))), ((ma 73), .inl (cy 1, 241, .inl (fun _ => 0))), ((ma 74), .inl (cy 1, 241, .inl (fun _ => 0))), ((ma 75), .inl (cy 1, 241, .inl (upd (fun _ => 0) 0 1))), ((ma 93), .inl (cy 1, 1000, .inl (fun _ => 0))), ((ma 94), .inl (cy 3, 1001, .inl (fun _ => 0))), ((ma 95), .inl (cy 1, 1000, .inl (fun _ => 0))), ((ma 97), .inl (cy 1, 101, .inl (fun _ => 0))), ((ma 98), .inl (cy 1, 101, .inl (fun _ => 0))), ((ma 99), .inl (cy 1, 101, .inl (fun _ => 0))), ((ma 100), .inl (cy 1, 101, .inl (fun _ => 0)))] := hD
  obtain rfl : r_1 = (-1) := hw
  refine lv_aload_n hx hb dL_law_708 rfl (lv_at hl 1 rfl) ?_
  refine lv_aload_n hx hb dL_law_709 rfl (lv_at hl 3 rfl) ?_
  refine lv_iload_n hx hb dL_law_710 rfl (lv_at hl 0 rfl) ?_
  refine lv_iconst (v := 1) hx hb dL_law_711 (by decide) ?_
  refine lv_iadd hx hb dL_law_712 ?_
  refine gp_ni 1 (by decide) ?_
  refine va_sld hx hb hX hbl hbA hS (by unfold vp_in; decide) dL_law_713 ?_
  refine gp_ni (xs 1) rfl ?_
  refine lv_aload_n hx hb dL_law_714 rfl (lv_at hl 3 rfl) ?_
  refine lv_iload_n hx hb dL_law_715 rfl (lv_at hl 0 rfl) ?_
  refine lv_iconst (v := 2) hx hb dL_law_716 (by decide) ?_
  refine lv_iadd hx hb dL_law_717 ?_
  refine gp_ni 2 (by decide) ?_
  refine va_sld hx hb hX hbl hbA hS (by unfold vp_in; decide) dL_law_718 ?_
  refine gp_ni (xs 2) rfl ?_
  refine lv_aload_n hx hb dL_law_719 rfl (lv_at hl 3 rfl) ?_
  refine lv_iload_n hx hb dL_law_720 rfl (lv_at hl 0 rfl) ?_
  refine lv_iconst (v := 3) hx hb dL_law_721 (by decide) ?_
  refine lv_iadd hx hb dL_law_722 ?_
  refine gp_ni 3 (by decide) ?_
  refine va_sld hx hb hX hbl hbA hS (by unfold vp_in; decide) dL_law_723 ?_
  refine gp_ni (xs 3) rfl ?_
  have hPc := hP.sub (ws' := [((ma 200), mo_0 ma), ((ma 11), .inl (cy 3, 8, .inl (fun _ => 0)))]) [0, 1] rfl
  have hDc := hD.sub (ws' := [((ma 200), mo_0 ma), ((ma 11), .inl (cy 3, 8, .inl (fun _ => 0)))]) [0, 1] (by decide) rfl
  have hFc := va_free (wc := [((ma 200), mo_0 ma), ((ma 11), .inl (cy 3, 8, .inl (fun _ => 0)))]) hD hS hA [0, 1] rfl
  refine va_calli (va_runV (As := [.int (xs 1), .int (xs 2), .int (xs 3)]) (rest := [.int (-1)]) ⟨hx, hb, hml, hown, hts⟩ (kX12_sees l D cy H.size ma (xs 1) (xs 2) (xs 3)) (cwV 3 hts gc_kX12_sees rfl rfl rfl (by decide +kernel) ⟨Nat.le_of_ble_eq_true rfl, Nat.le_of_ble_eq_true rfl⟩) (gp_preV (RX12, TX12, 104) 12 0 hPc hDc hK hN rfl rfl) rfl rfl hl.1 rfl (lv_room (Nat.le_of_ble_eq_true rfl)) dL_law_724 ⟨Nat.le_of_ble_eq_true rfl, Nat.le_of_ble_eq_true rfl⟩) hS (fun q _ h => hFc q h) hFc (fun r_2 u t H locs ht hvm hw hB hz1 hk1 hS => ?_)
  obtain ⟨hP, hD⟩ := gp_join (wr := []) (w1 := []) hP hD [0, 1] [] rfl rfl (by decide) (by decide) hk1 hFc ht hB
  have hP : va_P D vwCl [] H := hP
  have hD : va_D A [] := hD
  obtain rfl : r_2 = (-1) := hw
  refine lv_icmp_eq (tgt := 1364) hx hb dL_law_727 (by decide) (fun c_3 => ?_) (fun c_3 => absurd (by decide) c_3)
  refine lv_iinc (v := 7) (lv' := [(3, .int 7), (2, .ref (ma 200)), (1, .ref (xa 0)), (0, .ref b)]) hx hb dL_law_1364 hl (k := 0) rfl (by decide) (by decide) rfl (fun ls hl => ?_)
  refine lv_goto (tgt := 18) hx hb dL_law_1367 (by decide) ?_
  refine lv_iload_n hx hb dL_law_18 rfl (lv_at hl 0 rfl) ?_
  refine lv_aload_n hx hb dL_law_19 rfl (lv_at hl 3 rfl) ?_
  refine va_slen hx hb hX hbl hbA hS dL_law_20 ?_
  refine gp_ni 7 rfl ?_
  refine lv_bipush (v := 7) hx hb dL_law_21 (by decide) ?_
  refine lv_isub hx hb dL_law_23 ?_
  refine gp_ni 0 (by decide) ?_
  refine lv_icmp_gt (tgt := 1370) hx hb dL_law_24 (by decide) (fun c_4 => ?_) (fun c_4 => absurd (by decide) c_4)
  refine lv_iconst (v := 1) hx hb dL_law_1370 (by decide) ?_
  refine va_forget (fun q hq => hSA _ (hS.2.2 q hq)) ?_
  refine W.widen (k := 600000) (n := 7302250) (by decide) (by decide) ?_
  exact lw_ret hx hb hr hlocks dL_law_1371

set_option maxHeartbeats 4000000 in
set_option maxRecDepth 100000 in
theorem law_11 {p : Program} {e : Env} {s : State} {m : MethodId} {below : List Frame} {meth : Method} {c : Code} (l : Launch) {b : Nat} {xs : Nat → Int32} (C0 : lw_At p s m meth c b 7 xs) {D : va_G} {cy : Nat → ClassId} (hK : va_K D vwCl (gp_T cy) s) (hN : gp_N s) (xa ma : Nat → Nat) (fO : Nat → Option Nat) (hO : fO 0 = some (xa 6)) {A : Nat → Prop} (hAe : A = (fun q : Nat => s.heap.size ≤ q)) {H : Heap} {locs : List Loc} {ls : Array Slot} (hP : va_P D vwCl (lw_W cy xa ma fO) H) (hD : va_D A (lw_W cy xa ma fO)) (hS : va_S A s.heap H locs) (hl : lv_has ls 4 [(3, .int 0), (2, .ref (ma 200)), (1, .ref (xa 0)), (0, .ref b)]) : W p l e room_1 s m #[Value.ref b] below meth c H locs 153 14835 (lw_Z below #[Value.ref b] s) (F0 m 732 ls []) := by
  obtain ⟨hx, hb, hr, hml, hown, hts, hX, hbl, hlocks, hgv⟩ := id C0
  have hown : s.vm.findClass RL = some m.cls := hown
  have hA : ∀ q : Nat, s.heap.size ≤ q → A q := fun q h => by rw [hAe]; exact h
  have hbA : ¬ A b := by rw [hAe]; exact Nat.not_le.mpr hbl
  have hSA : ∀ q : Nat, A q → s.heap.size ≤ q := fun q h => by rw [hAe] at h; exact h
  refine lv_aload_n hx hb dL_law_732 rfl (lv_at hl 2 rfl) ?_
  refine lv_aload_n hx hb dL_law_733 rfl (lv_at hl 3 rfl) ?_
  refine lv_iload_n hx hb dL_law_734 rfl (lv_at hl 0 rfl) ?_
  refine lv_iconst (v := 1) hx hb dL_law_735 (by decide) ?_
  refine lv_iadd hx hb dL_law_736 ?_
  refine gp_ni 1 (by decide) ?_
  refine va_sld hx hb hX hbl hbA hS (by unfold vp_in; decide) dL_law_737 ?_
  refine gp_ni (xs 1) rfl ?_
  refine lv_aload_n hx hb dL_law_738 rfl (lv_at hl 3 rfl) ?_
  refine lv_iload_n hx hb dL_law_739 rfl (lv_at hl 0 rfl) ?_
  refine lv_iconst (v := 2) hx hb dL_law_740 (by decide) ?_
  refine lv_iadd hx hb dL_law_741 ?_
  refine gp_ni 2 (by decide) ?_
  refine va_sld hx hb hX hbl hbA hS (by unfold vp_in; decide) dL_law_742 ?_
  refine gp_ni (xs 2) rfl ?_
  refine lv_aload_n hx hb dL_law_743 rfl (lv_at hl 3 rfl) ?_
  refine lv_iload_n hx hb dL_law_744 rfl (lv_at hl 0 rfl) ?_
  refine lv_iconst (v := 3) hx hb dL_law_745 (by decide) ?_
  refine lv_iadd hx hb dL_law_746 ?_
  refine gp_ni 3 (by decide) ?_
  refine va_sld hx hb hX hbl hbA hS (by unfold vp_in; decide) dL_law_747 ?_
  refine gp_ni (xs 3) rfl ?_
  have hPc := hP.sub (ws' := [((xa 0), .inr (11, [.ref (xa 1), .ref (xa 3), .ref (xa 7), .ref (xa 11), .ref (xa 20), .ref (xa 24), .ref (xa 25), .ref (xa 29)])), ((xa 11), .inr (7, [.int (-50), .int 0, .int 50, .int 80, .int (-60), .int (-40), .int 60, .int (-40), .int 0, .int 4, .int 0, .ref (xa 12), .ref (xa 13), .ref (xa 14), .ref (xa 15), .ref (xa 16), .ref (xa 17), .ref (xa 18), .ref (xa 19)])), ((xa 12), .inl (cy 3, 8, .inl (fun _ => 0)))]) [0, 11, 12] rfl
  have hDc := hD.sub (ws' := [((xa 0), .inr (11, [.ref (xa 1), .ref (xa 3), .ref (xa 7), .ref (xa 11), .ref (xa 20), .ref (xa 24), .ref (xa 25), .ref (xa 29)])), ((xa 11), .inr (7, [.int (-50), .int 0, .int 50, .int 80, .int (-60), .int (-40), .int 60, .int (-40), .int 0, .int 4, .int 0, .ref (xa 12), .ref (xa 13), .ref (xa 14), .ref (xa 15), .ref (xa 16), .ref (xa 17), .ref (xa 18), .ref (xa 19)])), ((xa 12), .inl (cy 3, 8, .inl (fun _ => 0)))]) [0, 11, 12] (by decide) rfl
  have hFc := va_free (wc := [((xa 0), .inr (11, [.ref (xa 1), .ref (xa 3), .ref (xa 7), .ref (xa 11), .ref (xa 20), .ref (xa 24), .ref (xa 25), .ref (xa 29)])), ((xa 11), .inr (7, [.int (-50), .int 0, .int 50, .int 80, .int (-60), .int (-40), .int 60, .int (-40), .int 0, .int 4, .int 0, .ref (xa 12), .ref (xa 13), .ref (xa 14), .ref (xa 15), .ref (xa 16), .ref (xa 17), .ref (xa 18), .ref (xa 19)])), ((xa 12), .inl (cy 3, 8, .inl (fun _ => 0)))]) hD hS hA [0, 11, 12] rfl
  refine va_calli (va_runV (As := [.int (xs 1), .int (xs 2), .int (xs 3)]) (rest := []) ⟨hx, hb, hml, hown, hts⟩ (kX11_where l D cy H.size xa (xs 1) (xs 2) (xs 3)) (cwV 3 hts gc_kX11_where rfl rfl rfl (by decide +kernel) ⟨Nat.le_of_ble_eq_true rfl, Nat.le_of_ble_eq_true rfl⟩) (gp_preV (RX11, TX11, 8) 11 0 hPc hDc hK hN rfl rfl) rfl rfl hl.1 rfl (lv_room (Nat.le_of_ble_eq_true rfl)) dL_law_748 ⟨Nat.le_of_ble_eq_true rfl, Nat.le_of_ble_eq_true rfl⟩) hS (fun q _ h => hFc q h) hFc (fun r_1 u t H locs ht hvm hw hB hz1 hk1 hS => ?_)
  obtain ⟨hP, hD⟩ := gp_join (wr := [((ma 200), mo_0 ma), ((ma 11), .inl (cy 3, 8, .inl (fun _ => 0))), ((ma 12), .inl (cy 1, 8, .inl (fun _ => 0))), ((ma 13), .inl (cy 1, 8, .inl (fun _ => 0))), ((ma 14), .inl (cy 3, 12, .inl (fun _ => 0))), ((ma 15), .inl (cy 1, 12, .inl (fun _ => 0))), ((ma 16), .inl (cy 1, 12, .inl (fun _ => 0))), ((ma 17), .inl (cy 1, 12, .inl (fun _ => 0))), ((ma 18), .inl (cy 1, 12, .inl (fun _ => 0))), ((ma 19), .inl (cy 3, 12, .inl (fun _ => 0))), ((ma 20), .inl (cy 3, 8, .inl (fun _ => 0))), ((ma 21), .inl (cy 1, 8, .inl (fun _ => 0))), ((ma 22), .inl (cy 1, 8, .inl (fun _ => 0))), ((ma 23), .inl (cy 1, 8, .inl (fun _ => 0))), ((ma 24), .inl (cy 1, 8, .inl (fun _ => 0))), ((ma 33), .inl (cy 1, 600, .inl (fun _ => 0))), ((ma 68), .inl (cy 1, 8, .inl (fun _ => 0))), ((ma 69), .inl (cy 1, 8, .inl (fun _ => 0))), ((ma 70), .inl (cy 1, 8, .inl (fun _ => 0))), ((ma 73), .inl (cy 1, 241, .inl (fun _ => 0))), ((ma 74), .inl (cy 1, 241, .inl (fun _ => 0))), ((ma 75), .inl (cy 1, 241, .inl (upd (fun _ => 0) 0 1))), ((ma 93), .inl (cy 1, 1000, .inl (fun _ => 0))), ((ma 94), .inl (cy 3, 1001, .inl (fun _ => 0))), ((ma 95), .inl (cy 1, 1000, .inl (fun _ => 0))), ((ma 97), .inl (cy 1, 101, .inl (fun _ => 0))), ((ma 98), .inl (cy 1, 101, .inl (fun _ => 0))), ((ma 99), .inl (cy 1, 101, .inl (fun _ => 0))), ((ma 100), .inl (cy 1, 101, .inl (fun _ => 0)))]) (w1 := []) hP hD [0, 11, 12] [67, 68, 69, 70, 71, 72, 73, 74, 75, 76, 77, 78, 79, 80, 81, 82, 83, 84, 85, 86, 87, 88, 89, 90, 91, 92, 93, 94, 95] rfl rfl (by decide) (by decide) hk1 hFc ht hB
  have hP : va_P D vwCl [((ma 200), mo_0 ma), ((ma 11), .inl (cy 3, 8, .inl (fun _ => 0))), ((ma 12), .inl (cy 1, 8, .inl (fun _ => 0))), ((ma 13), .inl (cy 1, 8, .inl (fun _ => 0))), ((ma 14), .inl (cy 3, 12, .inl (fun _ => 0))), ((ma 15), .inl (cy 1, 12, .inl (fun _ => 0))), ((ma 16), .inl (cy 1, 12, .inl (fun _ => 0))), ((ma 17), .inl (cy 1, 12, .inl (fun _ => 0))), ((ma 18), .inl (cy 1, 12, .inl (fun _ => 0))), ((ma 19), .inl (cy 3, 12, .inl (fun _ => 0))), ((ma 20), .inl (cy 3, 8, .inl (fun _ => 0))), ((ma 21), .inl (cy 1, 8, .inl (fun _ => 0))), ((ma 22), .inl (cy 1, 8, .inl (fun _ => 0))), ((ma 23), .inl (cy 1, 8, .inl (fun _ => 0))), ((ma 24), .inl (cy 1, 8, .inl (fun _ => 0))), ((ma 33), .inl (cy 1, 600, .inl (fun _ => 0))), ((ma 68), .inl (cy 1, 8, .inl (fun _ => 0))), ((ma 69), .inl (cy 1, 8, .inl (fun _ => 0))), ((ma 70), .inl (cy 1, 8, .inl (fun _ => 0))), ((ma 73), .inl (cy 1, 241, .inl (fun _ => 0))), ((ma 74), .inl (cy 1, 241, .inl (fun _ => 0))), ((ma 75), .inl (cy 1, 241, .inl (upd (fun _ => 0) 0 1))), ((ma 93), .inl (cy 1, 1000, .inl (fun _ => 0))), ((ma 94), .inl (cy 3, 1001, .inl (fun _ => 0))), ((ma 95), .inl (cy 1, 1000, .inl (fun _ => 0))), ((ma 97), .inl (cy 1, 101, .inl (fun _ => 0))), ((ma 98), .inl (cy 1, 101, .inl (fun _ => 0))), ((ma 99), .inl (cy 1, 101, .inl (fun _ => 0))), ((ma 100), .inl (cy 1, 101, .inl (fun _ => 0)))] H := hP
  have hD : va_D A [((ma 200), mo_0 ma), ((ma 11), .inl (cy 3, 8, .inl (fun _ => 0))), ((ma 12), .inl (cy 1, 8, .inl (fun _ => 0))), ((ma 13), .inl (cy 1, 8, .inl (fun _ => 0))), ((ma 14), .inl (cy 3, 12, .inl (fun _ => 0))), ((ma 15), .inl (cy 1, 12, .inl (fun _ => 0))), ((ma 16), .inl (cy 1, 12, .inl (fun _ => 0))), ((ma 17), .inl (cy 1, 12, .inl (fun _ => 0))), ((ma 18), .inl (cy 1, 12, .inl (fun _ => 0))), ((ma 19), .inl (cy 3, 12, .inl (fun _ => 0))), ((ma 20), .inl (cy 3, 8, .inl (fun _ => 0))), ((ma 21), .inl (cy 1, 8, .inl (fun _ => 0))), ((ma 22), .inl (cy 1, 8, .inl (fun _ => 0))), ((ma 23), .inl (cy 1, 8, .inl (fun _ => 0))), ((ma 24), .inl (cy 1, 8, .inl (fun _ => 0))), ((ma 33), .inl (cy 1, 600, .inl (fun _ => 0))), ((ma 68), .inl (cy 1, 8, .inl (fun _ => 0))), ((ma 69), .inl (cy 1, 8, .inl (fun _ => 0))), ((ma 70), .inl (cy 1, 8, .inl (fun _ => 0))), ((ma 73), .inl (cy 1, 241, .inl (fun _ => 0))), ((ma 74), .inl (cy 1, 241, .inl (fun _ => 0))), ((ma 75), .inl (cy 1, 241, .inl (upd (fun _ => 0) 0 1))), ((ma 93), .inl (cy 1, 1000, .inl (fun _ => 0))), ((ma 94), .inl (cy 3, 1001, .inl (fun _ => 0))), ((ma 95), .inl (cy 1, 1000, .inl (fun _ => 0))), ((ma 97), .inl (cy 1, 101, .inl (fun _ => 0))), ((ma 98), .inl (cy 1, 101, .inl (fun _ => 0))), ((ma 99), .inl (cy 1, 101, .inl (fun _ => 0))), ((ma 100), .inl (cy 1, 101, .inl (fun _ => 0)))] := hD
  obtain rfl : r_1 = (-1) := hw
  refine lv_aload_n hx hb dL_law_751 rfl (lv_at hl 1 rfl) ?_
  refine lv_aload_n hx hb dL_law_752 rfl (lv_at hl 3 rfl) ?_
  refine lv_iload_n hx hb dL_law_753 rfl (lv_at hl 0 rfl) ?_
  refine lv_iconst (v := 1) hx hb dL_law_754 (by decide) ?_
  refine lv_iadd hx hb dL_law_755 ?_
  refine gp_ni 1 (by decide) ?_
  refine va_sld hx hb hX hbl hbA hS (by unfold vp_in; decide) dL_law_756 ?_
  refine gp_ni (xs 1) rfl ?_
  refine lv_aload_n hx hb dL_law_757 rfl (lv_at hl 3 rfl) ?_
  refine lv_iload_n hx hb dL_law_758 rfl (lv_at hl 0 rfl) ?_
  refine lv_iconst (v := 2) hx hb dL_law_759 (by decide) ?_
  refine lv_iadd hx hb dL_law_760 ?_
  refine gp_ni 2 (by decide) ?_
  refine va_sld hx hb hX hbl hbA hS (by unfold vp_in; decide) dL_law_761 ?_
  refine gp_ni (xs 2) rfl ?_
  refine lv_aload_n hx hb dL_law_762 rfl (lv_at hl 3 rfl) ?_
  refine lv_iload_n hx hb dL_law_763 rfl (lv_at hl 0 rfl) ?_
  refine lv_iconst (v := 3) hx hb dL_law_764 (by decide) ?_
  refine lv_iadd hx hb dL_law_765 ?_
  refine gp_ni 3 (by decide) ?_
  refine va_sld hx hb hX hbl hbA hS (by unfold vp_in; decide) dL_law_766 ?_
  refine gp_ni (xs 3) rfl ?_
  have hPc := hP.sub (ws' := [((ma 200), mo_0 ma), ((ma 11), .inl (cy 3, 8, .inl (fun _ => 0)))]) [0, 1] rfl
  have hDc := hD.sub (ws' := [((ma 200), mo_0 ma), ((ma 11), .inl (cy 3, 8, .inl (fun _ => 0)))]) [0, 1] (by decide) rfl
  have hFc := va_free (wc := [((ma 200), mo_0 ma), ((ma 11), .inl (cy 3, 8, .inl (fun _ => 0)))]) hD hS hA [0, 1] rfl
  refine va_calli (va_runV (As := [.int (xs 1), .int (xs 2), .int (xs 3)]) (rest := [.int (-1)]) ⟨hx, hb, hml, hown, hts⟩ (kX12_where l D cy H.size ma (xs 1) (xs 2) (xs 3)) (cwV 3 hts gc_kX12_where rfl rfl rfl (by decide +kernel) ⟨Nat.le_of_ble_eq_true rfl, Nat.le_of_ble_eq_true rfl⟩) (gp_preV (RX12, TX12, 104) 12 0 hPc hDc hK hN rfl rfl) rfl rfl hl.1 rfl (lv_room (Nat.le_of_ble_eq_true rfl)) dL_law_767 ⟨Nat.le_of_ble_eq_true rfl, Nat.le_of_ble_eq_true rfl⟩) hS (fun q _ h => hFc q h) hFc (fun r_2 u t H locs ht hvm hw hB hz1 hk1 hS => ?_)
  obtain ⟨hP, hD⟩ := gp_join (wr := []) (w1 := []) hP hD [0, 1] [] rfl rfl (by decide) (by decide) hk1 hFc ht hB
  have hP : va_P D vwCl [] H := hP
  have hD : va_D A [] := hD
  obtain rfl : r_2 = (-1) := hw
  refine lv_icmp_eq (tgt := 1364) hx hb dL_law_770 (by decide) (fun c_3 => ?_) (fun c_3 => absurd (by decide) c_3)
  refine lv_iinc (v := 7) (lv' := [(3, .int 7), (2, .ref (ma 200)), (1, .ref (xa 0)), (0, .ref b)]) hx hb dL_law_1364 hl (k := 0) rfl (by decide) (by decide) rfl (fun ls hl => ?_)
  refine lv_goto (tgt := 18) hx hb dL_law_1367 (by decide) ?_
  refine lv_iload_n hx hb dL_law_18 rfl (lv_at hl 0 rfl) ?_
  refine lv_aload_n hx hb dL_law_19 rfl (lv_at hl 3 rfl) ?_
  refine va_slen hx hb hX hbl hbA hS dL_law_20 ?_
  refine gp_ni 7 rfl ?_
  refine lv_bipush (v := 7) hx hb dL_law_21 (by decide) ?_
  refine lv_isub hx hb dL_law_23 ?_
  refine gp_ni 0 (by decide) ?_
  refine lv_icmp_gt (tgt := 1370) hx hb dL_law_24 (by decide) (fun c_4 => ?_) (fun c_4 => absurd (by decide) c_4)
  refine lv_iconst (v := 1) hx hb dL_law_1370 (by decide) ?_
  refine va_forget (fun q hq => hSA _ (hS.2.2 q hq)) ?_
  refine W.widen (k := 600000) (n := 7302250) (by decide) (by decide) ?_
  exact lw_ret hx hb hr hlocks dL_law_1371

set_option maxHeartbeats 4000000 in
set_option maxRecDepth 100000 in
theorem law_12 {p : Program} {e : Env} {s : State} {m : MethodId} {below : List Frame} {meth : Method} {c : Code} (l : Launch) {b : Nat} {xs : Nat → Int32} (C0 : lw_At p s m meth c b 7 xs) {D : va_G} {cy : Nat → ClassId} (hK : va_K D vwCl (gp_T cy) s) (hN : gp_N s) (xa ma : Nat → Nat) (fO : Nat → Option Nat) (hO : fO 0 = some (xa 6)) {A : Nat → Prop} (hAe : A = (fun q : Nat => s.heap.size ≤ q)) {H : Heap} {locs : List Loc} {ls : Array Slot} (hP : va_P D vwCl (lw_W cy xa ma fO) H) (hD : va_D A (lw_W cy xa ma fO)) (hS : va_S A s.heap H locs) (hl : lv_has ls 4 [(3, .int 0), (2, .ref (ma 200)), (1, .ref (xa 0)), (0, .ref b)]) : W p l e room_1 s m #[Value.ref b] below meth c H locs 153 14835 (lw_Z below #[Value.ref b] s) (F0 m 775 ls []) := by
  obtain ⟨hx, hb, hr, hml, hown, hts, hX, hbl, hlocks, hgv⟩ := id C0
  have hown : s.vm.findClass RL = some m.cls := hown
  have hA : ∀ q : Nat, s.heap.size ≤ q → A q := fun q h => by rw [hAe]; exact h
  have hbA : ¬ A b := by rw [hAe]; exact Nat.not_le.mpr hbl
  have hSA : ∀ q : Nat, A q → s.heap.size ≤ q := fun q h => by rw [hAe] at h; exact h
  refine lv_aload_n hx hb dL_law_775 rfl (lv_at hl 2 rfl) ?_
  refine lv_aload_n hx hb dL_law_776 rfl (lv_at hl 3 rfl) ?_
  refine lv_iload_n hx hb dL_law_777 rfl (lv_at hl 0 rfl) ?_
  refine lv_iconst (v := 1) hx hb dL_law_778 (by decide) ?_
  refine lv_iadd hx hb dL_law_779 ?_
  refine gp_ni 1 (by decide) ?_
  refine va_sld hx hb hX hbl hbA hS (by unfold vp_in; decide) dL_law_780 ?_
  refine gp_ni (xs 1) rfl ?_
  refine lv_aload_n hx hb dL_law_781 rfl (lv_at hl 3 rfl) ?_
  refine lv_iload_n hx hb dL_law_782 rfl (lv_at hl 0 rfl) ?_
  refine lv_iconst (v := 2) hx hb dL_law_783 (by decide) ?_
  refine lv_iadd hx hb dL_law_784 ?_
  refine gp_ni 2 (by decide) ?_
  refine va_sld hx hb hX hbl hbA hS (by unfold vp_in; decide) dL_law_785 ?_
  refine gp_ni (xs 2) rfl ?_
  refine lv_aload_n hx hb dL_law_786 rfl (lv_at hl 3 rfl) ?_
  refine lv_iload_n hx hb dL_law_787 rfl (lv_at hl 0 rfl) ?_
  refine lv_iconst (v := 3) hx hb dL_law_788 (by decide) ?_
  refine lv_iadd hx hb dL_law_789 ?_
  refine gp_ni 3 (by decide) ?_
  refine va_sld hx hb hX hbl hbA hS (by unfold vp_in; decide) dL_law_790 ?_
  refine gp_ni (xs 3) rfl ?_
  refine lv_aload_n hx hb dL_law_791 rfl (lv_at hl 3 rfl) ?_
  refine lv_iload_n hx hb dL_law_792 rfl (lv_at hl 0 rfl) ?_
  refine lv_iconst (v := 4) hx hb dL_law_793 (by decide) ?_
  refine lv_iadd hx hb dL_law_794 ?_
  refine gp_ni 4 (by decide) ?_
  refine va_sld hx hb hX hbl hbA hS (by unfold vp_in; decide) dL_law_795 ?_
  refine gp_ni (xs 4) rfl ?_
  have hPc := hP.sub (ws' := [((xa 0), .inr (11, [.ref (xa 1), .ref (xa 3), .ref (xa 7), .ref (xa 11), .ref (xa 20), .ref (xa 24), .ref (xa 25), .ref (xa 29)])), ((xa 11), .inr (7, [.int (-50), .int 0, .int 50, .int 80, .int (-60), .int (-40), .int 60, .int (-40), .int 0, .int 4, .int 0, .ref (xa 12), .ref (xa 13), .ref (xa 14), .ref (xa 15), .ref (xa 16), .ref (xa 17), .ref (xa 18), .ref (xa 19)])), ((xa 12), .inl (cy 3, 8, .inl (fun _ => 0)))]) [0, 11, 12] rfl
  have hDc := hD.sub (ws' := [((xa 0), .inr (11, [.ref (xa 1), .ref (xa 3), .ref (xa 7), .ref (xa 11), .ref (xa 20), .ref (xa 24), .ref (xa 25), .ref (xa 29)])), ((xa 11), .inr (7, [.int (-50), .int 0, .int 50, .int 80, .int (-60), .int (-40), .int 60, .int (-40), .int 0, .int 4, .int 0, .ref (xa 12), .ref (xa 13), .ref (xa 14), .ref (xa 15), .ref (xa 16), .ref (xa 17), .ref (xa 18), .ref (xa 19)])), ((xa 12), .inl (cy 3, 8, .inl (fun _ => 0)))]) [0, 11, 12] (by decide) rfl
  have hFc := va_free (wc := [((xa 0), .inr (11, [.ref (xa 1), .ref (xa 3), .ref (xa 7), .ref (xa 11), .ref (xa 20), .ref (xa 24), .ref (xa 25), .ref (xa 29)])), ((xa 11), .inr (7, [.int (-50), .int 0, .int 50, .int 80, .int (-60), .int (-40), .int 60, .int (-40), .int 0, .int 4, .int 0, .ref (xa 12), .ref (xa 13), .ref (xa 14), .ref (xa 15), .ref (xa 16), .ref (xa 17), .ref (xa 18), .ref (xa 19)])), ((xa 12), .inl (cy 3, 8, .inl (fun _ => 0)))]) hD hS hA [0, 11, 12] rfl
  refine va_calli (va_runV (As := [.int (xs 1), .int (xs 2), .int (xs 3), .int (xs 4)]) (rest := []) ⟨hx, hb, hml, hown, hts⟩ (kX11_blocks l D cy H.size xa (xs 1) (xs 2) (xs 3) (xs 4)) (cwV 4 hts gc_kX11_blocks rfl rfl rfl (by decide +kernel) ⟨Nat.le_of_ble_eq_true rfl, Nat.le_of_ble_eq_true rfl⟩) (gp_preV (RX11, TX11, 8) 11 0 hPc hDc hK hN rfl rfl) rfl rfl hl.1 rfl (lv_room (Nat.le_of_ble_eq_true rfl)) dL_law_796 ⟨Nat.le_of_ble_eq_true rfl, Nat.le_of_ble_eq_true rfl⟩) hS (fun q _ h => hFc q h) hFc (fun r_1 u t H locs ht hvm hw hB hz1 hk1 hS => ?_)
  obtain ⟨hP, hD⟩ := gp_join (wr := [((ma 200), mo_0 ma), ((ma 11), .inl (cy 3, 8, .inl (fun _ => 0))), ((ma 12), .inl (cy 1, 8, .inl (fun _ => 0))), ((ma 13), .inl (cy 1, 8, .inl (fun _ => 0))), ((ma 14), .inl (cy 3, 12, .inl (fun _ => 0))), ((ma 15), .inl (cy 1, 12, .inl (fun _ => 0))), ((ma 16), .inl (cy 1, 12, .inl (fun _ => 0))), ((ma 17), .inl (cy 1, 12, .inl (fun _ => 0))), ((ma 18), .inl (cy 1, 12, .inl (fun _ => 0))), ((ma 19), .inl (cy 3, 12, .inl (fun _ => 0))), ((ma 20), .inl (cy 3, 8, .inl (fun _ => 0))), ((ma 21), .inl (cy 1, 8, .inl (fun _ => 0))), ((ma 22), .inl (cy 1, 8, .inl (fun _ => 0))), ((ma 23), .inl (cy 1, 8, .inl (fun _ => 0))), ((ma 24), .inl (cy 1, 8, .inl (fun _ => 0))), ((ma 33), .inl (cy 1, 600, .inl (fun _ => 0))), ((ma 68), .inl (cy 1, 8, .inl (fun _ => 0))), ((ma 69), .inl (cy 1, 8, .inl (fun _ => 0))), ((ma 70), .inl (cy 1, 8, .inl (fun _ => 0))), ((ma 73), .inl (cy 1, 241, .inl (fun _ => 0))), ((ma 74), .inl (cy 1, 241, .inl (fun _ => 0))), ((ma 75), .inl (cy 1, 241, .inl (upd (fun _ => 0) 0 1))), ((ma 93), .inl (cy 1, 1000, .inl (fun _ => 0))), ((ma 94), .inl (cy 3, 1001, .inl (fun _ => 0))), ((ma 95), .inl (cy 1, 1000, .inl (fun _ => 0))), ((ma 97), .inl (cy 1, 101, .inl (fun _ => 0))), ((ma 98), .inl (cy 1, 101, .inl (fun _ => 0))), ((ma 99), .inl (cy 1, 101, .inl (fun _ => 0))), ((ma 100), .inl (cy 1, 101, .inl (fun _ => 0)))]) (w1 := []) hP hD [0, 11, 12] [67, 68, 69, 70, 71, 72, 73, 74, 75, 76, 77, 78, 79, 80, 81, 82, 83, 84, 85, 86, 87, 88, 89, 90, 91, 92, 93, 94, 95] rfl rfl (by decide) (by decide) hk1 hFc ht hB
  have hP : va_P D vwCl [((ma 200), mo_0 ma), ((ma 11), .inl (cy 3, 8, .inl (fun _ => 0))), ((ma 12), .inl (cy 1, 8, .inl (fun _ => 0))), ((ma 13), .inl (cy 1, 8, .inl (fun _ => 0))), ((ma 14), .inl (cy 3, 12, .inl (fun _ => 0))), ((ma 15), .inl (cy 1, 12, .inl (fun _ => 0))), ((ma 16), .inl (cy 1, 12, .inl (fun _ => 0))), ((ma 17), .inl (cy 1, 12, .inl (fun _ => 0))), ((ma 18), .inl (cy 1, 12, .inl (fun _ => 0))), ((ma 19), .inl (cy 3, 12, .inl (fun _ => 0))), ((ma 20), .inl (cy 3, 8, .inl (fun _ => 0))), ((ma 21), .inl (cy 1, 8, .inl (fun _ => 0))), ((ma 22), .inl (cy 1, 8, .inl (fun _ => 0))), ((ma 23), .inl (cy 1, 8, .inl (fun _ => 0))), ((ma 24), .inl (cy 1, 8, .inl (fun _ => 0))), ((ma 33), .inl (cy 1, 600, .inl (fun _ => 0))), ((ma 68), .inl (cy 1, 8, .inl (fun _ => 0))), ((ma 69), .inl (cy 1, 8, .inl (fun _ => 0))), ((ma 70), .inl (cy 1, 8, .inl (fun _ => 0))), ((ma 73), .inl (cy 1, 241, .inl (fun _ => 0))), ((ma 74), .inl (cy 1, 241, .inl (fun _ => 0))), ((ma 75), .inl (cy 1, 241, .inl (upd (fun _ => 0) 0 1))), ((ma 93), .inl (cy 1, 1000, .inl (fun _ => 0))), ((ma 94), .inl (cy 3, 1001, .inl (fun _ => 0))), ((ma 95), .inl (cy 1, 1000, .inl (fun _ => 0))), ((ma 97), .inl (cy 1, 101, .inl (fun _ => 0))), ((ma 98), .inl (cy 1, 101, .inl (fun _ => 0))), ((ma 99), .inl (cy 1, 101, .inl (fun _ => 0))), ((ma 100), .inl (cy 1, 101, .inl (fun _ => 0)))] H := hP
  have hD : va_D A [((ma 200), mo_0 ma), ((ma 11), .inl (cy 3, 8, .inl (fun _ => 0))), ((ma 12), .inl (cy 1, 8, .inl (fun _ => 0))), ((ma 13), .inl (cy 1, 8, .inl (fun _ => 0))), ((ma 14), .inl (cy 3, 12, .inl (fun _ => 0))), ((ma 15), .inl (cy 1, 12, .inl (fun _ => 0))), ((ma 16), .inl (cy 1, 12, .inl (fun _ => 0))), ((ma 17), .inl (cy 1, 12, .inl (fun _ => 0))), ((ma 18), .inl (cy 1, 12, .inl (fun _ => 0))), ((ma 19), .inl (cy 3, 12, .inl (fun _ => 0))), ((ma 20), .inl (cy 3, 8, .inl (fun _ => 0))), ((ma 21), .inl (cy 1, 8, .inl (fun _ => 0))), ((ma 22), .inl (cy 1, 8, .inl (fun _ => 0))), ((ma 23), .inl (cy 1, 8, .inl (fun _ => 0))), ((ma 24), .inl (cy 1, 8, .inl (fun _ => 0))), ((ma 33), .inl (cy 1, 600, .inl (fun _ => 0))), ((ma 68), .inl (cy 1, 8, .inl (fun _ => 0))), ((ma 69), .inl (cy 1, 8, .inl (fun _ => 0))), ((ma 70), .inl (cy 1, 8, .inl (fun _ => 0))), ((ma 73), .inl (cy 1, 241, .inl (fun _ => 0))), ((ma 74), .inl (cy 1, 241, .inl (fun _ => 0))), ((ma 75), .inl (cy 1, 241, .inl (upd (fun _ => 0) 0 1))), ((ma 93), .inl (cy 1, 1000, .inl (fun _ => 0))), ((ma 94), .inl (cy 3, 1001, .inl (fun _ => 0))), ((ma 95), .inl (cy 1, 1000, .inl (fun _ => 0))), ((ma 97), .inl (cy 1, 101, .inl (fun _ => 0))), ((ma 98), .inl (cy 1, 101, .inl (fun _ => 0))), ((ma 99), .inl (cy 1, 101, .inl (fun _ => 0))), ((ma 100), .inl (cy 1, 101, .inl (fun _ => 0)))] := hD
  obtain rfl : r_1 = (-1) := hw
  refine lv_aload_n hx hb dL_law_799 rfl (lv_at hl 1 rfl) ?_
  refine lv_aload_n hx hb dL_law_800 rfl (lv_at hl 3 rfl) ?_
  refine lv_iload_n hx hb dL_law_801 rfl (lv_at hl 0 rfl) ?_
  refine lv_iconst (v := 1) hx hb dL_law_802 (by decide) ?_
  refine lv_iadd hx hb dL_law_803 ?_
  refine gp_ni 1 (by decide) ?_
  refine va_sld hx hb hX hbl hbA hS (by unfold vp_in; decide) dL_law_804 ?_
  refine gp_ni (xs 1) rfl ?_
  refine lv_aload_n hx hb dL_law_805 rfl (lv_at hl 3 rfl) ?_
  refine lv_iload_n hx hb dL_law_806 rfl (lv_at hl 0 rfl) ?_
  refine lv_iconst (v := 2) hx hb dL_law_807 (by decide) ?_
  refine lv_iadd hx hb dL_law_808 ?_
  refine gp_ni 2 (by decide) ?_
  refine va_sld hx hb hX hbl hbA hS (by unfold vp_in; decide) dL_law_809 ?_
  refine gp_ni (xs 2) rfl ?_
  refine lv_aload_n hx hb dL_law_810 rfl (lv_at hl 3 rfl) ?_
  refine lv_iload_n hx hb dL_law_811 rfl (lv_at hl 0 rfl) ?_
  refine lv_iconst (v := 3) hx hb dL_law_812 (by decide) ?_
  refine lv_iadd hx hb dL_law_813 ?_
  refine gp_ni 3 (by decide) ?_
  refine va_sld hx hb hX hbl hbA hS (by unfold vp_in; decide) dL_law_814 ?_
  refine gp_ni (xs 3) rfl ?_
  refine lv_aload_n hx hb dL_law_815 rfl (lv_at hl 3 rfl) ?_
  refine lv_iload_n hx hb dL_law_816 rfl (lv_at hl 0 rfl) ?_
  refine lv_iconst (v := 4) hx hb dL_law_817 (by decide) ?_
  refine lv_iadd hx hb dL_law_818 ?_
  refine gp_ni 4 (by decide) ?_
  refine va_sld hx hb hX hbl hbA hS (by unfold vp_in; decide) dL_law_819 ?_
  refine gp_ni (xs 4) rfl ?_
  have hPc := hP.sub (ws' := [((ma 200), mo_0 ma), ((ma 11), .inl (cy 3, 8, .inl (fun _ => 0)))]) [0, 1] rfl
  have hDc := hD.sub (ws' := [((ma 200), mo_0 ma), ((ma 11), .inl (cy 3, 8, .inl (fun _ => 0)))]) [0, 1] (by decide) rfl
  have hFc := va_free (wc := [((ma 200), mo_0 ma), ((ma 11), .inl (cy 3, 8, .inl (fun _ => 0)))]) hD hS hA [0, 1] rfl
  refine va_calli (va_runV (As := [.int (xs 1), .int (xs 2), .int (xs 3), .int (xs 4)]) (rest := [.int (-1)]) ⟨hx, hb, hml, hown, hts⟩ (kX12_blocks l D cy H.size ma (xs 1) (xs 2) (xs 3) (xs 4)) (cwV 4 hts gc_kX12_blocks rfl rfl rfl (by decide +kernel) ⟨Nat.le_of_ble_eq_true rfl, Nat.le_of_ble_eq_true rfl⟩) (gp_preV (RX12, TX12, 104) 12 0 hPc hDc hK hN rfl rfl) rfl rfl hl.1 rfl (lv_room (Nat.le_of_ble_eq_true rfl)) dL_law_820 ⟨Nat.le_of_ble_eq_true rfl, Nat.le_of_ble_eq_true rfl⟩) hS (fun q _ h => hFc q h) hFc (fun r_2 u t H locs ht hvm hw hB hz1 hk1 hS => ?_)
  obtain ⟨hP, hD⟩ := gp_join (wr := []) (w1 := []) hP hD [0, 1] [] rfl rfl (by decide) (by decide) hk1 hFc ht hB
  have hP : va_P D vwCl [] H := hP
  have hD : va_D A [] := hD
  obtain rfl : r_2 = (-1) := hw
  refine lv_icmp_eq (tgt := 1364) hx hb dL_law_823 (by decide) (fun c_3 => ?_) (fun c_3 => absurd (by decide) c_3)
  refine lv_iinc (v := 7) (lv' := [(3, .int 7), (2, .ref (ma 200)), (1, .ref (xa 0)), (0, .ref b)]) hx hb dL_law_1364 hl (k := 0) rfl (by decide) (by decide) rfl (fun ls hl => ?_)
  refine lv_goto (tgt := 18) hx hb dL_law_1367 (by decide) ?_
  refine lv_iload_n hx hb dL_law_18 rfl (lv_at hl 0 rfl) ?_
  refine lv_aload_n hx hb dL_law_19 rfl (lv_at hl 3 rfl) ?_
  refine va_slen hx hb hX hbl hbA hS dL_law_20 ?_
  refine gp_ni 7 rfl ?_
  refine lv_bipush (v := 7) hx hb dL_law_21 (by decide) ?_
  refine lv_isub hx hb dL_law_23 ?_
  refine gp_ni 0 (by decide) ?_
  refine lv_icmp_gt (tgt := 1370) hx hb dL_law_24 (by decide) (fun c_4 => ?_) (fun c_4 => absurd (by decide) c_4)
  refine lv_iconst (v := 1) hx hb dL_law_1370 (by decide) ?_
  refine va_forget (fun q hq => hSA _ (hS.2.2 q hq)) ?_
  refine W.widen (k := 600000) (n := 7302250) (by decide) (by decide) ?_
  exact lw_ret hx hb hr hlocks dL_law_1371

set_option maxHeartbeats 4000000 in
set_option maxRecDepth 100000 in
theorem law_13 {p : Program} {e : Env} {s : State} {m : MethodId} {below : List Frame} {meth : Method} {c : Code} (l : Launch) {b : Nat} {xs : Nat → Int32} (C0 : lw_At p s m meth c b 7 xs) {D : va_G} {cy : Nat → ClassId} (hK : va_K D vwCl (gp_T cy) s) (hN : gp_N s) (xa ma : Nat → Nat) (fO : Nat → Option Nat) (hO : fO 0 = some (xa 6)) {A : Nat → Prop} (hAe : A = (fun q : Nat => s.heap.size ≤ q)) {H : Heap} {locs : List Loc} {ls : Array Slot} (hP : va_P D vwCl (lw_W cy xa ma fO) H) (hD : va_D A (lw_W cy xa ma fO)) (hS : va_S A s.heap H locs) (hl : lv_has ls 4 [(3, .int 0), (2, .ref (ma 200)), (1, .ref (xa 0)), (0, .ref b)]) : W p l e room_1 s m #[Value.ref b] below meth c H locs 153 14835 (lw_Z below #[Value.ref b] s) (F0 m 828 ls []) := by
  obtain ⟨hx, hb, hr, hml, hown, hts, hX, hbl, hlocks, hgv⟩ := id C0
  have hown : s.vm.findClass RL = some m.cls := hown
  have hA : ∀ q : Nat, s.heap.size ≤ q → A q := fun q h => by rw [hAe]; exact h
  have hbA : ¬ A b := by rw [hAe]; exact Nat.not_le.mpr hbl
  have hSA : ∀ q : Nat, A q → s.heap.size ≤ q := fun q h => by rw [hAe] at h; exact h
  refine lv_aload_n hx hb dL_law_828 rfl (lv_at hl 2 rfl) ?_
  refine lv_aload_n hx hb dL_law_829 rfl (lv_at hl 3 rfl) ?_
  refine lv_iload_n hx hb dL_law_830 rfl (lv_at hl 0 rfl) ?_
  refine lv_iconst (v := 1) hx hb dL_law_831 (by decide) ?_
  refine lv_iadd hx hb dL_law_832 ?_
  refine gp_ni 1 (by decide) ?_
  refine va_sld hx hb hX hbl hbA hS (by unfold vp_in; decide) dL_law_833 ?_
  refine gp_ni (xs 1) rfl ?_
  refine lv_aload_n hx hb dL_law_834 rfl (lv_at hl 3 rfl) ?_
  refine lv_iload_n hx hb dL_law_835 rfl (lv_at hl 0 rfl) ?_
  refine lv_iconst (v := 2) hx hb dL_law_836 (by decide) ?_
  refine lv_iadd hx hb dL_law_837 ?_
  refine gp_ni 2 (by decide) ?_
  refine va_sld hx hb hX hbl hbA hS (by unfold vp_in; decide) dL_law_838 ?_
  refine gp_ni (xs 2) rfl ?_
  have hPc := hP.sub (ws' := [((xa 0), .inr (11, [.ref (xa 1), .ref (xa 3), .ref (xa 7), .ref (xa 11), .ref (xa 20), .ref (xa 24), .ref (xa 25), .ref (xa 29)])), ((xa 11), .inr (7, [.int (-50), .int 0, .int 50, .int 80, .int (-60), .int (-40), .int 60, .int (-40), .int 0, .int 4, .int 0, .ref (xa 12), .ref (xa 13), .ref (xa 14), .ref (xa 15), .ref (xa 16), .ref (xa 17), .ref (xa 18), .ref (xa 19)])), ((xa 15), .inl (cy 3, 12, .inl (fun _ => 0)))]) [0, 11, 15] rfl
  have hDc := hD.sub (ws' := [((xa 0), .inr (11, [.ref (xa 1), .ref (xa 3), .ref (xa 7), .ref (xa 11), .ref (xa 20), .ref (xa 24), .ref (xa 25), .ref (xa 29)])), ((xa 11), .inr (7, [.int (-50), .int 0, .int 50, .int 80, .int (-60), .int (-40), .int 60, .int (-40), .int 0, .int 4, .int 0, .ref (xa 12), .ref (xa 13), .ref (xa 14), .ref (xa 15), .ref (xa 16), .ref (xa 17), .ref (xa 18), .ref (xa 19)])), ((xa 15), .inl (cy 3, 12, .inl (fun _ => 0)))]) [0, 11, 15] (by decide) rfl
  have hFc := va_free (wc := [((xa 0), .inr (11, [.ref (xa 1), .ref (xa 3), .ref (xa 7), .ref (xa 11), .ref (xa 20), .ref (xa 24), .ref (xa 25), .ref (xa 29)])), ((xa 11), .inr (7, [.int (-50), .int 0, .int 50, .int 80, .int (-60), .int (-40), .int 60, .int (-40), .int 0, .int 4, .int 0, .ref (xa 12), .ref (xa 13), .ref (xa 14), .ref (xa 15), .ref (xa 16), .ref (xa 17), .ref (xa 18), .ref (xa 19)])), ((xa 15), .inl (cy 3, 12, .inl (fun _ => 0)))]) hD hS hA [0, 11, 15] rfl
  refine va_calli (va_runV (As := [.int (xs 1), .int (xs 2)]) (rest := []) ⟨hx, hb, hml, hown, hts⟩ (kX11_shows l D cy H.size xa (xs 1) (xs 2)) (cwV 2 hts gc_kX11_shows rfl rfl rfl (by decide +kernel) ⟨Nat.le_of_ble_eq_true rfl, Nat.le_of_ble_eq_true rfl⟩) (gp_preV (RX11, TX11, 8) 11 0 hPc hDc hK hN rfl rfl) rfl rfl hl.1 rfl (lv_room (Nat.le_of_ble_eq_true rfl)) dL_law_839 ⟨Nat.le_of_ble_eq_true rfl, Nat.le_of_ble_eq_true rfl⟩) hS (fun q _ h => hFc q h) hFc (fun r_1 u t H locs ht hvm hw hB hz1 hk1 hS => ?_)
  obtain ⟨hP, hD⟩ := gp_join (wr := [((ma 200), mo_0 ma), ((ma 11), .inl (cy 3, 8, .inl (fun _ => 0))), ((ma 12), .inl (cy 1, 8, .inl (fun _ => 0))), ((ma 13), .inl (cy 1, 8, .inl (fun _ => 0))), ((ma 14), .inl (cy 3, 12, .inl (fun _ => 0))), ((ma 15), .inl (cy 1, 12, .inl (fun _ => 0))), ((ma 16), .inl (cy 1, 12, .inl (fun _ => 0))), ((ma 17), .inl (cy 1, 12, .inl (fun _ => 0))), ((ma 18), .inl (cy 1, 12, .inl (fun _ => 0))), ((ma 19), .inl (cy 3, 12, .inl (fun _ => 0))), ((ma 20), .inl (cy 3, 8, .inl (fun _ => 0))), ((ma 21), .inl (cy 1, 8, .inl (fun _ => 0))), ((ma 22), .inl (cy 1, 8, .inl (fun _ => 0))), ((ma 23), .inl (cy 1, 8, .inl (fun _ => 0))), ((ma 24), .inl (cy 1, 8, .inl (fun _ => 0))), ((ma 33), .inl (cy 1, 600, .inl (fun _ => 0))), ((ma 68), .inl (cy 1, 8, .inl (fun _ => 0))), ((ma 69), .inl (cy 1, 8, .inl (fun _ => 0))), ((ma 70), .inl (cy 1, 8, .inl (fun _ => 0))), ((ma 73), .inl (cy 1, 241, .inl (fun _ => 0))), ((ma 74), .inl (cy 1, 241, .inl (fun _ => 0))), ((ma 75), .inl (cy 1, 241, .inl (upd (fun _ => 0) 0 1))), ((ma 93), .inl (cy 1, 1000, .inl (fun _ => 0))), ((ma 94), .inl (cy 3, 1001, .inl (fun _ => 0))), ((ma 95), .inl (cy 1, 1000, .inl (fun _ => 0))), ((ma 97), .inl (cy 1, 101, .inl (fun _ => 0))), ((ma 98), .inl (cy 1, 101, .inl (fun _ => 0))), ((ma 99), .inl (cy 1, 101, .inl (fun _ => 0))), ((ma 100), .inl (cy 1, 101, .inl (fun _ => 0)))]) (w1 := []) hP hD [0, 11, 15] [67, 68, 69, 70, 71, 72, 73, 74, 75, 76, 77, 78, 79, 80, 81, 82, 83, 84, 85, 86, 87, 88, 89, 90, 91, 92, 93, 94, 95] rfl rfl (by decide) (by decide) hk1 hFc ht hB
  have hP : va_P D vwCl [((ma 200), mo_0 ma), ((ma 11), .inl (cy 3, 8, .inl (fun _ => 0))), ((ma 12), .inl (cy 1, 8, .inl (fun _ => 0))), ((ma 13), .inl (cy 1, 8, .inl (fun _ => 0))), ((ma 14), .inl (cy 3, 12, .inl (fun _ => 0))), ((ma 15), .inl (cy 1, 12, .inl (fun _ => 0))), ((ma 16), .inl (cy 1, 12, .inl (fun _ => 0))), ((ma 17), .inl (cy 1, 12, .inl (fun _ => 0))), ((ma 18), .inl (cy 1, 12, .inl (fun _ => 0))), ((ma 19), .inl (cy 3, 12, .inl (fun _ => 0))), ((ma 20), .inl (cy 3, 8, .inl (fun _ => 0))), ((ma 21), .inl (cy 1, 8, .inl (fun _ => 0))), ((ma 22), .inl (cy 1, 8, .inl (fun _ => 0))), ((ma 23), .inl (cy 1, 8, .inl (fun _ => 0))), ((ma 24), .inl (cy 1, 8, .inl (fun _ => 0))), ((ma 33), .inl (cy 1, 600, .inl (fun _ => 0))), ((ma 68), .inl (cy 1, 8, .inl (fun _ => 0))), ((ma 69), .inl (cy 1, 8, .inl (fun _ => 0))), ((ma 70), .inl (cy 1, 8, .inl (fun _ => 0))), ((ma 73), .inl (cy 1, 241, .inl (fun _ => 0))), ((ma 74), .inl (cy 1, 241, .inl (fun _ => 0))), ((ma 75), .inl (cy 1, 241, .inl (upd (fun _ => 0) 0 1))), ((ma 93), .inl (cy 1, 1000, .inl (fun _ => 0))), ((ma 94), .inl (cy 3, 1001, .inl (fun _ => 0))), ((ma 95), .inl (cy 1, 1000, .inl (fun _ => 0))), ((ma 97), .inl (cy 1, 101, .inl (fun _ => 0))), ((ma 98), .inl (cy 1, 101, .inl (fun _ => 0))), ((ma 99), .inl (cy 1, 101, .inl (fun _ => 0))), ((ma 100), .inl (cy 1, 101, .inl (fun _ => 0)))] H := hP
  have hD : va_D A [((ma 200), mo_0 ma), ((ma 11), .inl (cy 3, 8, .inl (fun _ => 0))), ((ma 12), .inl (cy 1, 8, .inl (fun _ => 0))), ((ma 13), .inl (cy 1, 8, .inl (fun _ => 0))), ((ma 14), .inl (cy 3, 12, .inl (fun _ => 0))), ((ma 15), .inl (cy 1, 12, .inl (fun _ => 0))), ((ma 16), .inl (cy 1, 12, .inl (fun _ => 0))), ((ma 17), .inl (cy 1, 12, .inl (fun _ => 0))), ((ma 18), .inl (cy 1, 12, .inl (fun _ => 0))), ((ma 19), .inl (cy 3, 12, .inl (fun _ => 0))), ((ma 20), .inl (cy 3, 8, .inl (fun _ => 0))), ((ma 21), .inl (cy 1, 8, .inl (fun _ => 0))), ((ma 22), .inl (cy 1, 8, .inl (fun _ => 0))), ((ma 23), .inl (cy 1, 8, .inl (fun _ => 0))), ((ma 24), .inl (cy 1, 8, .inl (fun _ => 0))), ((ma 33), .inl (cy 1, 600, .inl (fun _ => 0))), ((ma 68), .inl (cy 1, 8, .inl (fun _ => 0))), ((ma 69), .inl (cy 1, 8, .inl (fun _ => 0))), ((ma 70), .inl (cy 1, 8, .inl (fun _ => 0))), ((ma 73), .inl (cy 1, 241, .inl (fun _ => 0))), ((ma 74), .inl (cy 1, 241, .inl (fun _ => 0))), ((ma 75), .inl (cy 1, 241, .inl (upd (fun _ => 0) 0 1))), ((ma 93), .inl (cy 1, 1000, .inl (fun _ => 0))), ((ma 94), .inl (cy 3, 1001, .inl (fun _ => 0))), ((ma 95), .inl (cy 1, 1000, .inl (fun _ => 0))), ((ma 97), .inl (cy 1, 101, .inl (fun _ => 0))), ((ma 98), .inl (cy 1, 101, .inl (fun _ => 0))), ((ma 99), .inl (cy 1, 101, .inl (fun _ => 0))), ((ma 100), .inl (cy 1, 101, .inl (fun _ => 0)))] := hD
  obtain rfl : r_1 = (-1) := hw
  refine lv_aload_n hx hb dL_law_842 rfl (lv_at hl 1 rfl) ?_
  refine lv_aload_n hx hb dL_law_843 rfl (lv_at hl 3 rfl) ?_
  refine lv_iload_n hx hb dL_law_844 rfl (lv_at hl 0 rfl) ?_
  refine lv_iconst (v := 1) hx hb dL_law_845 (by decide) ?_
  refine lv_iadd hx hb dL_law_846 ?_
  refine gp_ni 1 (by decide) ?_
  refine va_sld hx hb hX hbl hbA hS (by unfold vp_in; decide) dL_law_847 ?_
  refine gp_ni (xs 1) rfl ?_
  refine lv_aload_n hx hb dL_law_848 rfl (lv_at hl 3 rfl) ?_
  refine lv_iload_n hx hb dL_law_849 rfl (lv_at hl 0 rfl) ?_
  refine lv_iconst (v := 2) hx hb dL_law_850 (by decide) ?_
  refine lv_iadd hx hb dL_law_851 ?_
  refine gp_ni 2 (by decide) ?_
  refine va_sld hx hb hX hbl hbA hS (by unfold vp_in; decide) dL_law_852 ?_
  refine gp_ni (xs 2) rfl ?_
  have hPc := hP.sub (ws' := [((ma 200), mo_0 ma), ((ma 14), .inl (cy 3, 12, .inl (fun _ => 0)))]) [0, 4] rfl
  have hDc := hD.sub (ws' := [((ma 200), mo_0 ma), ((ma 14), .inl (cy 3, 12, .inl (fun _ => 0)))]) [0, 4] (by decide) rfl
  have hFc := va_free (wc := [((ma 200), mo_0 ma), ((ma 14), .inl (cy 3, 12, .inl (fun _ => 0)))]) hD hS hA [0, 4] rfl
  refine va_calli (va_runV (As := [.int (xs 1), .int (xs 2)]) (rest := [.int (-1)]) ⟨hx, hb, hml, hown, hts⟩ (kX12_shows l D cy H.size ma (xs 1) (xs 2)) (cwV 2 hts gc_kX12_shows rfl rfl rfl (by decide +kernel) ⟨Nat.le_of_ble_eq_true rfl, Nat.le_of_ble_eq_true rfl⟩) (gp_preV (RX12, TX12, 104) 12 0 hPc hDc hK hN rfl rfl) rfl rfl hl.1 rfl (lv_room (Nat.le_of_ble_eq_true rfl)) dL_law_853 ⟨Nat.le_of_ble_eq_true rfl, Nat.le_of_ble_eq_true rfl⟩) hS (fun q _ h => hFc q h) hFc (fun r_2 u t H locs ht hvm hw hB hz1 hk1 hS => ?_)
  obtain ⟨hP, hD⟩ := gp_join (wr := []) (w1 := []) hP hD [0, 4] [] rfl rfl (by decide) (by decide) hk1 hFc ht hB
  have hP : va_P D vwCl [] H := hP
  have hD : va_D A [] := hD
  obtain rfl : r_2 = (-1) := hw
  refine lv_icmp_eq (tgt := 1364) hx hb dL_law_856 (by decide) (fun c_3 => ?_) (fun c_3 => absurd (by decide) c_3)
  refine lv_iinc (v := 7) (lv' := [(3, .int 7), (2, .ref (ma 200)), (1, .ref (xa 0)), (0, .ref b)]) hx hb dL_law_1364 hl (k := 0) rfl (by decide) (by decide) rfl (fun ls hl => ?_)
  refine lv_goto (tgt := 18) hx hb dL_law_1367 (by decide) ?_
  refine lv_iload_n hx hb dL_law_18 rfl (lv_at hl 0 rfl) ?_
  refine lv_aload_n hx hb dL_law_19 rfl (lv_at hl 3 rfl) ?_
  refine va_slen hx hb hX hbl hbA hS dL_law_20 ?_
  refine gp_ni 7 rfl ?_
  refine lv_bipush (v := 7) hx hb dL_law_21 (by decide) ?_
  refine lv_isub hx hb dL_law_23 ?_
  refine gp_ni 0 (by decide) ?_
  refine lv_icmp_gt (tgt := 1370) hx hb dL_law_24 (by decide) (fun c_4 => ?_) (fun c_4 => absurd (by decide) c_4)
  refine lv_iconst (v := 1) hx hb dL_law_1370 (by decide) ?_
  refine va_forget (fun q hq => hSA _ (hS.2.2 q hq)) ?_
  refine W.widen (k := 600000) (n := 7302250) (by decide) (by decide) ?_
  exact lw_ret hx hb hr hlocks dL_law_1371

set_option maxHeartbeats 4000000 in
set_option maxRecDepth 100000 in
theorem law_14 {p : Program} {e : Env} {s : State} {m : MethodId} {below : List Frame} {meth : Method} {c : Code} (l : Launch) {b : Nat} {xs : Nat → Int32} (C0 : lw_At p s m meth c b 7 xs) {D : va_G} {cy : Nat → ClassId} (hK : va_K D vwCl (gp_T cy) s) (hN : gp_N s) (xa ma : Nat → Nat) (fO : Nat → Option Nat) (hO : fO 0 = some (xa 6)) {A : Nat → Prop} (hAe : A = (fun q : Nat => s.heap.size ≤ q)) {H : Heap} {locs : List Loc} {ls : Array Slot} (hP : va_P D vwCl (lw_W cy xa ma fO) H) (hD : va_D A (lw_W cy xa ma fO)) (hS : va_S A s.heap H locs) (hl : lv_has ls 4 [(3, .int 0), (2, .ref (ma 200)), (1, .ref (xa 0)), (0, .ref b)]) : W p l e room_1 s m #[Value.ref b] below meth c H locs 153 14835 (lw_Z below #[Value.ref b] s) (F0 m 861 ls []) := by
  obtain ⟨hx, hb, hr, hml, hown, hts, hX, hbl, hlocks, hgv⟩ := id C0
  have hown : s.vm.findClass RL = some m.cls := hown
  have hA : ∀ q : Nat, s.heap.size ≤ q → A q := fun q h => by rw [hAe]; exact h
  have hbA : ¬ A b := by rw [hAe]; exact Nat.not_le.mpr hbl
  have hSA : ∀ q : Nat, A q → s.heap.size ≤ q := fun q h => by rw [hAe] at h; exact h
  refine lv_aload_n hx hb dL_law_861 rfl (lv_at hl 2 rfl) ?_
  have hPc := hP.sub (ws' := [((xa 0), .inr (11, [.ref (xa 1), .ref (xa 3), .ref (xa 7), .ref (xa 11), .ref (xa 20), .ref (xa 24), .ref (xa 25), .ref (xa 29)])), ((xa 11), .inr (7, [.int (-50), .int 0, .int 50, .int 80, .int (-60), .int (-40), .int 60, .int (-40), .int 0, .int 4, .int 0, .ref (xa 12), .ref (xa 13), .ref (xa 14), .ref (xa 15), .ref (xa 16), .ref (xa 17), .ref (xa 18), .ref (xa 19)])), ((xa 15), .inl (cy 3, 12, .inl (fun _ => 0))), ((xa 16), .inl (cy 6, 12, .inr (.inr (.inr (.inr (fun i => if i < 12 then some (xa (100 + i)) else none)))))), ((xa 17), .inl (cy 3, 12, .inl (fun _ => 0))), ((xa 20), .inr (8, [.ref (xa 21), .int 0, .int 0, .int 0, .ref (xa 11), .ref (xa 7)])), ((xa 21), .inr (3, [.long 0, .int 0, .ref (xa 22), .ref (xa 23), .long 0, .long 0, .long 0, .long 0, .long 0, .long 0, .long 0, .long 0, .long 0, .long 0, .long 0, .long 0])), ((xa 22), .inl (cy 7, 12, .inr (.inr (.inr (.inr (fun i => if i < 12 then some (xa (140 + i)) else none)))))), ((xa 23), .inl (cy 3, 12, .inl (fun _ => 0))), ((xa 100), .inl (cy 1, 4, .inl (fun _ => 0))), ((xa 101), .inl (cy 1, 4, .inl (fun _ => 0))), ((xa 102), .inl (cy 1, 4, .inl (fun _ => 0))), ((xa 103), .inl (cy 1, 4, .inl (fun _ => 0))), ((xa 104), .inl (cy 1, 4, .inl (fun _ => 0))), ((xa 105), .inl (cy 1, 4, .inl (fun _ => 0))), ((xa 106), .inl (cy 1, 4, .inl (fun _ => 0))), ((xa 107), .inl (cy 1, 4, .inl (fun _ => 0))), ((xa 108), .inl (cy 1, 4, .inl (fun _ => 0))), ((xa 109), .inl (cy 1, 4, .inl (fun _ => 0))), ((xa 110), .inl (cy 1, 4, .inl (fun _ => 0))), ((xa 111), .inl (cy 1, 4, .inl (fun _ => 0))), ((xa 140), .inl (cy 2, 4, .inr (.inl (fun _ => 0)))), ((xa 141), .inl (cy 2, 4, .inr (.inl (fun _ => 0)))), ((xa 142), .inl (cy 2, 4, .inr (.inl (fun _ => 0)))), ((xa 143), .inl (cy 2, 4, .inr (.inl (fun _ => 0)))), ((xa 144), .inl (cy 2, 4, .inr (.inl (fun _ => 0)))), ((xa 145), .inl (cy 2, 4, .inr (.inl (fun _ => 0)))), ((xa 146), .inl (cy 2, 4, .inr (.inl (fun _ => 0)))), ((xa 147), .inl (cy 2, 4, .inr (.inl (fun _ => 0)))), ((xa 148), .inl (cy 2, 4, .inr (.inl (fun _ => 0)))), ((xa 149), .inl (cy 2, 4, .inr (.inl (fun _ => 0)))), ((xa 150), .inl (cy 2, 4, .inr (.inl (fun _ => 0)))), ((xa 151), .inl (cy 2, 4, .inr (.inl (fun _ => 0))))]) [0, 11, 15, 16, 17, 20, 21, 22, 23, 35, 36, 37, 38, 39, 40, 41, 42, 43, 44, 45, 46, 55, 56, 57, 58, 59, 60, 61, 62, 63, 64, 65, 66] rfl
  have hDc := hD.sub (ws' := [((xa 0), .inr (11, [.ref (xa 1), .ref (xa 3), .ref (xa 7), .ref (xa 11), .ref (xa 20), .ref (xa 24), .ref (xa 25), .ref (xa 29)])), ((xa 11), .inr (7, [.int (-50), .int 0, .int 50, .int 80, .int (-60), .int (-40), .int 60, .int (-40), .int 0, .int 4, .int 0, .ref (xa 12), .ref (xa 13), .ref (xa 14), .ref (xa 15), .ref (xa 16), .ref (xa 17), .ref (xa 18), .ref (xa 19)])), ((xa 15), .inl (cy 3, 12, .inl (fun _ => 0))), ((xa 16), .inl (cy 6, 12, .inr (.inr (.inr (.inr (fun i => if i < 12 then some (xa (100 + i)) else none)))))), ((xa 17), .inl (cy 3, 12, .inl (fun _ => 0))), ((xa 20), .inr (8, [.ref (xa 21), .int 0, .int 0, .int 0, .ref (xa 11), .ref (xa 7)])), ((xa 21), .inr (3, [.long 0, .int 0, .ref (xa 22), .ref (xa 23), .long 0, .long 0, .long 0, .long 0, .long 0, .long 0, .long 0, .long 0, .long 0, .long 0, .long 0, .long 0])), ((xa 22), .inl (cy 7, 12, .inr (.inr (.inr (.inr (fun i => if i < 12 then some (xa (140 + i)) else none)))))), ((xa 23), .inl (cy 3, 12, .inl (fun _ => 0))), ((xa 100), .inl (cy 1, 4, .inl (fun _ => 0))), ((xa 101), .inl (cy 1, 4, .inl (fun _ => 0))), ((xa 102), .inl (cy 1, 4, .inl (fun _ => 0))), ((xa 103), .inl (cy 1, 4, .inl (fun _ => 0))), ((xa 104), .inl (cy 1, 4, .inl (fun _ => 0))), ((xa 105), .inl (cy 1, 4, .inl (fun _ => 0))), ((xa 106), .inl (cy 1, 4, .inl (fun _ => 0))), ((xa 107), .inl (cy 1, 4, .inl (fun _ => 0))), ((xa 108), .inl (cy 1, 4, .inl (fun _ => 0))), ((xa 109), .inl (cy 1, 4, .inl (fun _ => 0))), ((xa 110), .inl (cy 1, 4, .inl (fun _ => 0))), ((xa 111), .inl (cy 1, 4, .inl (fun _ => 0))), ((xa 140), .inl (cy 2, 4, .inr (.inl (fun _ => 0)))), ((xa 141), .inl (cy 2, 4, .inr (.inl (fun _ => 0)))), ((xa 142), .inl (cy 2, 4, .inr (.inl (fun _ => 0)))), ((xa 143), .inl (cy 2, 4, .inr (.inl (fun _ => 0)))), ((xa 144), .inl (cy 2, 4, .inr (.inl (fun _ => 0)))), ((xa 145), .inl (cy 2, 4, .inr (.inl (fun _ => 0)))), ((xa 146), .inl (cy 2, 4, .inr (.inl (fun _ => 0)))), ((xa 147), .inl (cy 2, 4, .inr (.inl (fun _ => 0)))), ((xa 148), .inl (cy 2, 4, .inr (.inl (fun _ => 0)))), ((xa 149), .inl (cy 2, 4, .inr (.inl (fun _ => 0)))), ((xa 150), .inl (cy 2, 4, .inr (.inl (fun _ => 0)))), ((xa 151), .inl (cy 2, 4, .inr (.inl (fun _ => 0))))]) [0, 11, 15, 16, 17, 20, 21, 22, 23, 35, 36, 37, 38, 39, 40, 41, 42, 43, 44, 45, 46, 55, 56, 57, 58, 59, 60, 61, 62, 63, 64, 65, 66] (by decide) rfl
  have hFc := va_free (wc := [((xa 0), .inr (11, [.ref (xa 1), .ref (xa 3), .ref (xa 7), .ref (xa 11), .ref (xa 20), .ref (xa 24), .ref (xa 25), .ref (xa 29)])), ((xa 11), .inr (7, [.int (-50), .int 0, .int 50, .int 80, .int (-60), .int (-40), .int 60, .int (-40), .int 0, .int 4, .int 0, .ref (xa 12), .ref (xa 13), .ref (xa 14), .ref (xa 15), .ref (xa 16), .ref (xa 17), .ref (xa 18), .ref (xa 19)])), ((xa 15), .inl (cy 3, 12, .inl (fun _ => 0))), ((xa 16), .inl (cy 6, 12, .inr (.inr (.inr (.inr (fun i => if i < 12 then some (xa (100 + i)) else none)))))), ((xa 17), .inl (cy 3, 12, .inl (fun _ => 0))), ((xa 20), .inr (8, [.ref (xa 21), .int 0, .int 0, .int 0, .ref (xa 11), .ref (xa 7)])), ((xa 21), .inr (3, [.long 0, .int 0, .ref (xa 22), .ref (xa 23), .long 0, .long 0, .long 0, .long 0, .long 0, .long 0, .long 0, .long 0, .long 0, .long 0, .long 0, .long 0])), ((xa 22), .inl (cy 7, 12, .inr (.inr (.inr (.inr (fun i => if i < 12 then some (xa (140 + i)) else none)))))), ((xa 23), .inl (cy 3, 12, .inl (fun _ => 0))), ((xa 100), .inl (cy 1, 4, .inl (fun _ => 0))), ((xa 101), .inl (cy 1, 4, .inl (fun _ => 0))), ((xa 102), .inl (cy 1, 4, .inl (fun _ => 0))), ((xa 103), .inl (cy 1, 4, .inl (fun _ => 0))), ((xa 104), .inl (cy 1, 4, .inl (fun _ => 0))), ((xa 105), .inl (cy 1, 4, .inl (fun _ => 0))), ((xa 106), .inl (cy 1, 4, .inl (fun _ => 0))), ((xa 107), .inl (cy 1, 4, .inl (fun _ => 0))), ((xa 108), .inl (cy 1, 4, .inl (fun _ => 0))), ((xa 109), .inl (cy 1, 4, .inl (fun _ => 0))), ((xa 110), .inl (cy 1, 4, .inl (fun _ => 0))), ((xa 111), .inl (cy 1, 4, .inl (fun _ => 0))), ((xa 140), .inl (cy 2, 4, .inr (.inl (fun _ => 0)))), ((xa 141), .inl (cy 2, 4, .inr (.inl (fun _ => 0)))), ((xa 142), .inl (cy 2, 4, .inr (.inl (fun _ => 0)))), ((xa 143), .inl (cy 2, 4, .inr (.inl (fun _ => 0)))), ((xa 144), .inl (cy 2, 4, .inr (.inl (fun _ => 0)))), ((xa 145), .inl (cy 2, 4, .inr (.inl (fun _ => 0)))), ((xa 146), .inl (cy 2, 4, .inr (.inl (fun _ => 0)))), ((xa 147), .inl (cy 2, 4, .inr (.inl (fun _ => 0)))), ((xa 148), .inl (cy 2, 4, .inr (.inl (fun _ => 0)))), ((xa 149), .inl (cy 2, 4, .inr (.inl (fun _ => 0)))), ((xa 150), .inl (cy 2, 4, .inr (.inl (fun _ => 0)))), ((xa 151), .inl (cy 2, 4, .inr (.inl (fun _ => 0))))]) hD hS hA [0, 11, 15, 16, 17, 20, 21, 22, 23, 35, 36, 37, 38, 39, 40, 41, 42, 43, 44, 45, 46, 55, 56, 57, 58, 59, 60, 61, 62, 63, 64, 65, 66] rfl
  refine va_calli (va_runV (As := []) (rest := []) ⟨hx, hb, hml, hown, hts⟩ (kX11_black l D cy H.size xa) (cwV 0 hts gc_kX11_black rfl rfl rfl (by decide +kernel) ⟨Nat.le_of_ble_eq_true rfl, Nat.le_of_ble_eq_true rfl⟩) (gp_preV (RX11, TX11, 8) 11 0 hPc hDc hK hN rfl rfl) rfl rfl hl.1 rfl (lv_room (Nat.le_of_ble_eq_true rfl)) dL_law_862 ⟨Nat.le_of_ble_eq_true rfl, Nat.le_of_ble_eq_true rfl⟩) hS (fun q _ h => hFc q h) hFc (fun r_1 u t H locs ht hvm hw hB hz1 hk1 hS => ?_)
  obtain ⟨hP, hD⟩ := gp_join (wr := [((ma 200), mo_0 ma), ((ma 11), .inl (cy 3, 8, .inl (fun _ => 0))), ((ma 12), .inl (cy 1, 8, .inl (fun _ => 0))), ((ma 13), .inl (cy 1, 8, .inl (fun _ => 0))), ((ma 14), .inl (cy 3, 12, .inl (fun _ => 0))), ((ma 15), .inl (cy 1, 12, .inl (fun _ => 0))), ((ma 16), .inl (cy 1, 12, .inl (fun _ => 0))), ((ma 17), .inl (cy 1, 12, .inl (fun _ => 0))), ((ma 18), .inl (cy 1, 12, .inl (fun _ => 0))), ((ma 19), .inl (cy 3, 12, .inl (fun _ => 0))), ((ma 20), .inl (cy 3, 8, .inl (fun _ => 0))), ((ma 21), .inl (cy 1, 8, .inl (fun _ => 0))), ((ma 22), .inl (cy 1, 8, .inl (fun _ => 0))), ((ma 23), .inl (cy 1, 8, .inl (fun _ => 0))), ((ma 24), .inl (cy 1, 8, .inl (fun _ => 0))), ((ma 33), .inl (cy 1, 600, .inl (fun _ => 0))), ((ma 68), .inl (cy 1, 8, .inl (fun _ => 0))), ((ma 69), .inl (cy 1, 8, .inl (fun _ => 0))), ((ma 70), .inl (cy 1, 8, .inl (fun _ => 0))), ((ma 73), .inl (cy 1, 241, .inl (fun _ => 0))), ((ma 74), .inl (cy 1, 241, .inl (fun _ => 0))), ((ma 75), .inl (cy 1, 241, .inl (upd (fun _ => 0) 0 1))), ((ma 93), .inl (cy 1, 1000, .inl (fun _ => 0))), ((ma 94), .inl (cy 3, 1001, .inl (fun _ => 0))), ((ma 95), .inl (cy 1, 1000, .inl (fun _ => 0))), ((ma 97), .inl (cy 1, 101, .inl (fun _ => 0))), ((ma 98), .inl (cy 1, 101, .inl (fun _ => 0))), ((ma 99), .inl (cy 1, 101, .inl (fun _ => 0))), ((ma 100), .inl (cy 1, 101, .inl (fun _ => 0)))]) (w1 := []) hP hD [0, 11, 15, 16, 17, 20, 21, 22, 23, 35, 36, 37, 38, 39, 40, 41, 42, 43, 44, 45, 46, 55, 56, 57, 58, 59, 60, 61, 62, 63, 64, 65, 66] [67, 68, 69, 70, 71, 72, 73, 74, 75, 76, 77, 78, 79, 80, 81, 82, 83, 84, 85, 86, 87, 88, 89, 90, 91, 92, 93, 94, 95] rfl rfl (by decide) (by decide) hk1 hFc ht hB
  have hP : va_P D vwCl [((ma 200), mo_0 ma), ((ma 11), .inl (cy 3, 8, .inl (fun _ => 0))), ((ma 12), .inl (cy 1, 8, .inl (fun _ => 0))), ((ma 13), .inl (cy 1, 8, .inl (fun _ => 0))), ((ma 14), .inl (cy 3, 12, .inl (fun _ => 0))), ((ma 15), .inl (cy 1, 12, .inl (fun _ => 0))), ((ma 16), .inl (cy 1, 12, .inl (fun _ => 0))), ((ma 17), .inl (cy 1, 12, .inl (fun _ => 0))), ((ma 18), .inl (cy 1, 12, .inl (fun _ => 0))), ((ma 19), .inl (cy 3, 12, .inl (fun _ => 0))), ((ma 20), .inl (cy 3, 8, .inl (fun _ => 0))), ((ma 21), .inl (cy 1, 8, .inl (fun _ => 0))), ((ma 22), .inl (cy 1, 8, .inl (fun _ => 0))), ((ma 23), .inl (cy 1, 8, .inl (fun _ => 0))), ((ma 24), .inl (cy 1, 8, .inl (fun _ => 0))), ((ma 33), .inl (cy 1, 600, .inl (fun _ => 0))), ((ma 68), .inl (cy 1, 8, .inl (fun _ => 0))), ((ma 69), .inl (cy 1, 8, .inl (fun _ => 0))), ((ma 70), .inl (cy 1, 8, .inl (fun _ => 0))), ((ma 73), .inl (cy 1, 241, .inl (fun _ => 0))), ((ma 74), .inl (cy 1, 241, .inl (fun _ => 0))), ((ma 75), .inl (cy 1, 241, .inl (upd (fun _ => 0) 0 1))), ((ma 93), .inl (cy 1, 1000, .inl (fun _ => 0))), ((ma 94), .inl (cy 3, 1001, .inl (fun _ => 0))), ((ma 95), .inl (cy 1, 1000, .inl (fun _ => 0))), ((ma 97), .inl (cy 1, 101, .inl (fun _ => 0))), ((ma 98), .inl (cy 1, 101, .inl (fun _ => 0))), ((ma 99), .inl (cy 1, 101, .inl (fun _ => 0))), ((ma 100), .inl (cy 1, 101, .inl (fun _ => 0)))] H := hP
  have hD : va_D A [((ma 200), mo_0 ma), ((ma 11), .inl (cy 3, 8, .inl (fun _ => 0))), ((ma 12), .inl (cy 1, 8, .inl (fun _ => 0))), ((ma 13), .inl (cy 1, 8, .inl (fun _ => 0))), ((ma 14), .inl (cy 3, 12, .inl (fun _ => 0))), ((ma 15), .inl (cy 1, 12, .inl (fun _ => 0))), ((ma 16), .inl (cy 1, 12, .inl (fun _ => 0))), ((ma 17), .inl (cy 1, 12, .inl (fun _ => 0))), ((ma 18), .inl (cy 1, 12, .inl (fun _ => 0))), ((ma 19), .inl (cy 3, 12, .inl (fun _ => 0))), ((ma 20), .inl (cy 3, 8, .inl (fun _ => 0))), ((ma 21), .inl (cy 1, 8, .inl (fun _ => 0))), ((ma 22), .inl (cy 1, 8, .inl (fun _ => 0))), ((ma 23), .inl (cy 1, 8, .inl (fun _ => 0))), ((ma 24), .inl (cy 1, 8, .inl (fun _ => 0))), ((ma 33), .inl (cy 1, 600, .inl (fun _ => 0))), ((ma 68), .inl (cy 1, 8, .inl (fun _ => 0))), ((ma 69), .inl (cy 1, 8, .inl (fun _ => 0))), ((ma 70), .inl (cy 1, 8, .inl (fun _ => 0))), ((ma 73), .inl (cy 1, 241, .inl (fun _ => 0))), ((ma 74), .inl (cy 1, 241, .inl (fun _ => 0))), ((ma 75), .inl (cy 1, 241, .inl (upd (fun _ => 0) 0 1))), ((ma 93), .inl (cy 1, 1000, .inl (fun _ => 0))), ((ma 94), .inl (cy 3, 1001, .inl (fun _ => 0))), ((ma 95), .inl (cy 1, 1000, .inl (fun _ => 0))), ((ma 97), .inl (cy 1, 101, .inl (fun _ => 0))), ((ma 98), .inl (cy 1, 101, .inl (fun _ => 0))), ((ma 99), .inl (cy 1, 101, .inl (fun _ => 0))), ((ma 100), .inl (cy 1, 101, .inl (fun _ => 0)))] := hD
  obtain rfl : r_1 = 0 := hw
  refine lv_aload_n hx hb dL_law_865 rfl (lv_at hl 1 rfl) ?_
  have hPc := hP.sub (ws' := [((ma 200), mo_0 ma), ((ma 14), .inl (cy 3, 12, .inl (fun _ => 0)))]) [0, 4] rfl
  have hDc := hD.sub (ws' := [((ma 200), mo_0 ma), ((ma 14), .inl (cy 3, 12, .inl (fun _ => 0)))]) [0, 4] (by decide) rfl
  have hFc := va_free (wc := [((ma 200), mo_0 ma), ((ma 14), .inl (cy 3, 12, .inl (fun _ => 0)))]) hD hS hA [0, 4] rfl
  refine va_calli (va_runV (As := []) (rest := [.int 0]) ⟨hx, hb, hml, hown, hts⟩ (kX12_black l D cy H.size ma) (cwV 0 hts gc_kX12_black rfl rfl rfl (by decide +kernel) ⟨Nat.le_of_ble_eq_true rfl, Nat.le_of_ble_eq_true rfl⟩) (gp_preV (RX12, TX12, 104) 12 0 hPc hDc hK hN rfl rfl) rfl rfl hl.1 rfl (lv_room (Nat.le_of_ble_eq_true rfl)) dL_law_866 ⟨Nat.le_of_ble_eq_true rfl, Nat.le_of_ble_eq_true rfl⟩) hS (fun q _ h => hFc q h) hFc (fun r_2 u t H locs ht hvm hw hB hz1 hk1 hS => ?_)
  obtain ⟨hP, hD⟩ := gp_join (wr := []) (w1 := []) hP hD [0, 4] [] rfl rfl (by decide) (by decide) hk1 hFc ht hB
  have hP : va_P D vwCl [] H := hP
  have hD : va_D A [] := hD
  obtain rfl : r_2 = 0 := hw
  refine lv_icmp_eq (tgt := 1364) hx hb dL_law_869 (by decide) (fun c_3 => ?_) (fun c_3 => absurd (by decide) c_3)
  refine lv_iinc (v := 7) (lv' := [(3, .int 7), (2, .ref (ma 200)), (1, .ref (xa 0)), (0, .ref b)]) hx hb dL_law_1364 hl (k := 0) rfl (by decide) (by decide) rfl (fun ls hl => ?_)
  refine lv_goto (tgt := 18) hx hb dL_law_1367 (by decide) ?_
  refine lv_iload_n hx hb dL_law_18 rfl (lv_at hl 0 rfl) ?_
  refine lv_aload_n hx hb dL_law_19 rfl (lv_at hl 3 rfl) ?_
  refine va_slen hx hb hX hbl hbA hS dL_law_20 ?_
  refine gp_ni 7 rfl ?_
  refine lv_bipush (v := 7) hx hb dL_law_21 (by decide) ?_
  refine lv_isub hx hb dL_law_23 ?_
  refine gp_ni 0 (by decide) ?_
  refine lv_icmp_gt (tgt := 1370) hx hb dL_law_24 (by decide) (fun c_4 => ?_) (fun c_4 => absurd (by decide) c_4)
  refine lv_iconst (v := 1) hx hb dL_law_1370 (by decide) ?_
  refine va_forget (fun q hq => hSA _ (hS.2.2 q hq)) ?_
  refine W.widen (k := 600000) (n := 7302250) (by decide) (by decide) ?_
  exact lw_ret hx hb hr hlocks dL_law_1371

set_option maxHeartbeats 4000000 in
set_option maxRecDepth 100000 in
theorem law_15 {p : Program} {e : Env} {s : State} {m : MethodId} {below : List Frame} {meth : Method} {c : Code} (l : Launch) {b : Nat} {xs : Nat → Int32} (C0 : lw_At p s m meth c b 7 xs) {D : va_G} {cy : Nat → ClassId} (hK : va_K D vwCl (gp_T cy) s) (hN : gp_N s) (xa ma : Nat → Nat) (fO : Nat → Option Nat) (hO : fO 0 = some (xa 6)) {A : Nat → Prop} (hAe : A = (fun q : Nat => s.heap.size ≤ q)) {H : Heap} {locs : List Loc} {ls : Array Slot} (hP : va_P D vwCl (lw_W cy xa ma fO) H) (hD : va_D A (lw_W cy xa ma fO)) (hS : va_S A s.heap H locs) (hl : lv_has ls 4 [(3, .int 0), (2, .ref (ma 200)), (1, .ref (xa 0)), (0, .ref b)]) : W p l e room_1 s m #[Value.ref b] below meth c H locs 153 14835 (lw_Z below #[Value.ref b] s) (F0 m 874 ls []) := by
  obtain ⟨hx, hb, hr, hml, hown, hts, hX, hbl, hlocks, hgv⟩ := id C0
  have hown : s.vm.findClass RL = some m.cls := hown
  have hA : ∀ q : Nat, s.heap.size ≤ q → A q := fun q h => by rw [hAe]; exact h
  have hbA : ¬ A b := by rw [hAe]; exact Nat.not_le.mpr hbl
  have hSA : ∀ q : Nat, A q → s.heap.size ≤ q := fun q h => by rw [hAe] at h; exact h
  refine lv_aload_n hx hb dL_law_874 rfl (lv_at hl 2 rfl) ?_
  have hPc := hP.sub (ws' := [((xa 0), .inr (11, [.ref (xa 1), .ref (xa 3), .ref (xa 7), .ref (xa 11), .ref (xa 20), .ref (xa 24), .ref (xa 25), .ref (xa 29)])), ((xa 1), .inr (9, [.int 0, .int 0, .int (-1), .int 0, .int 0, .int 0, .ref (xa 2)])), ((xa 3), .inr (6, [.ref (xa 4), .ref (xa 1), .ref (xa 5), .ref (xa 38), .int 0, .int 0])), ((xa 4), .inr (2, [.int 0, .ref (xa 39), .ref (xa 40), .ref (xa 41)])), ((xa 5), .inl (cy 5, 7, .inr (.inr (.inr (.inr fO))))), ((xa 6), .inr (0, [.int 0, .int 0, .int 0, .int 0, .int 0, .int 0, .int 0])), ((xa 7), .inr (10, [.int 0, .ref (xa 8), .ref (xa 9), .ref (xa 10), .ref (xa 42), .ref (xa 43), .int 0])), ((xa 8), .inl (cy 1, 241, .inl (fun _ => 0))), ((xa 9), .inl (cy 1, 241, .inl (fun _ => 0))), ((xa 10), .inl (cy 3, 241, .inl (upd (fun _ => 0) 0 1)))]) [0, 1, 3, 4, 5, 6, 7, 8, 9, 10] rfl
  have hDc := hD.sub (ws' := [((xa 0), .inr (11, [.ref (xa 1), .ref (xa 3), .ref (xa 7), .ref (xa 11), .ref (xa 20), .ref (xa 24), .ref (xa 25), .ref (xa 29)])), ((xa 1), .inr (9, [.int 0, .int 0, .int (-1), .int 0, .int 0, .int 0, .ref (xa 2)])), ((xa 3), .inr (6, [.ref (xa 4), .ref (xa 1), .ref (xa 5), .ref (xa 38), .int 0, .int 0])), ((xa 4), .inr (2, [.int 0, .ref (xa 39), .ref (xa 40), .ref (xa 41)])), ((xa 5), .inl (cy 5, 7, .inr (.inr (.inr (.inr fO))))), ((xa 6), .inr (0, [.int 0, .int 0, .int 0, .int 0, .int 0, .int 0, .int 0])), ((xa 7), .inr (10, [.int 0, .ref (xa 8), .ref (xa 9), .ref (xa 10), .ref (xa 42), .ref (xa 43), .int 0])), ((xa 8), .inl (cy 1, 241, .inl (fun _ => 0))), ((xa 9), .inl (cy 1, 241, .inl (fun _ => 0))), ((xa 10), .inl (cy 3, 241, .inl (upd (fun _ => 0) 0 1)))]) [0, 1, 3, 4, 5, 6, 7, 8, 9, 10] (by decide) rfl
  have hFc := va_free (wc := [((xa 0), .inr (11, [.ref (xa 1), .ref (xa 3), .ref (xa 7), .ref (xa 11), .ref (xa 20), .ref (xa 24), .ref (xa 25), .ref (xa 29)])), ((xa 1), .inr (9, [.int 0, .int 0, .int (-1), .int 0, .int 0, .int 0, .ref (xa 2)])), ((xa 3), .inr (6, [.ref (xa 4), .ref (xa 1), .ref (xa 5), .ref (xa 38), .int 0, .int 0])), ((xa 4), .inr (2, [.int 0, .ref (xa 39), .ref (xa 40), .ref (xa 41)])), ((xa 5), .inl (cy 5, 7, .inr (.inr (.inr (.inr fO))))), ((xa 6), .inr (0, [.int 0, .int 0, .int 0, .int 0, .int 0, .int 0, .int 0])), ((xa 7), .inr (10, [.int 0, .ref (xa 8), .ref (xa 9), .ref (xa 10), .ref (xa 42), .ref (xa 43), .int 0])), ((xa 8), .inl (cy 1, 241, .inl (fun _ => 0))), ((xa 9), .inl (cy 1, 241, .inl (fun _ => 0))), ((xa 10), .inl (cy 3, 241, .inl (upd (fun _ => 0) 0 1)))]) hD hS hA [0, 1, 3, 4, 5, 6, 7, 8, 9, 10] rfl
  refine va_calli (va_runV (As := []) (rest := []) ⟨hx, hb, hml, hown, hts⟩ (kX11_walk l D cy H.size fO xa hO) (cwV 0 hts gc_kX11_walk rfl rfl rfl (by decide +kernel) ⟨Nat.le_of_ble_eq_true rfl, Nat.le_of_ble_eq_true rfl⟩) (gp_preV (RX11, TX11, 8) 11 0 hPc hDc hK hN rfl rfl) rfl rfl hl.1 rfl (lv_room (Nat.le_of_ble_eq_true rfl)) dL_law_875 ⟨Nat.le_of_ble_eq_true rfl, Nat.le_of_ble_eq_true rfl⟩) hS (fun q _ h => hFc q h) hFc (fun r_1 u t H locs ht hvm hw hB hz1 hk1 hS => ?_)
  obtain ⟨hP, hD⟩ := gp_join (wr := [((ma 200), mo_0 ma), ((ma 11), .inl (cy 3, 8, .inl (fun _ => 0))), ((ma 12), .inl (cy 1, 8, .inl (fun _ => 0))), ((ma 13), .inl (cy 1, 8, .inl (fun _ => 0))), ((ma 14), .inl (cy 3, 12, .inl (fun _ => 0))), ((ma 15), .inl (cy 1, 12, .inl (fun _ => 0))), ((ma 16), .inl (cy 1, 12, .inl (fun _ => 0))), ((ma 17), .inl (cy 1, 12, .inl (fun _ => 0))), ((ma 18), .inl (cy 1, 12, .inl (fun _ => 0))), ((ma 19), .inl (cy 3, 12, .inl (fun _ => 0))), ((ma 20), .inl (cy 3, 8, .inl (fun _ => 0))), ((ma 21), .inl (cy 1, 8, .inl (fun _ => 0))), ((ma 22), .inl (cy 1, 8, .inl (fun _ => 0))), ((ma 23), .inl (cy 1, 8, .inl (fun _ => 0))), ((ma 24), .inl (cy 1, 8, .inl (fun _ => 0))), ((ma 33), .inl (cy 1, 600, .inl (fun _ => 0))), ((ma 68), .inl (cy 1, 8, .inl (fun _ => 0))), ((ma 69), .inl (cy 1, 8, .inl (fun _ => 0))), ((ma 70), .inl (cy 1, 8, .inl (fun _ => 0))), ((ma 73), .inl (cy 1, 241, .inl (fun _ => 0))), ((ma 74), .inl (cy 1, 241, .inl (fun _ => 0))), ((ma 75), .inl (cy 1, 241, .inl (upd (fun _ => 0) 0 1))), ((ma 93), .inl (cy 1, 1000, .inl (fun _ => 0))), ((ma 94), .inl (cy 3, 1001, .inl (fun _ => 0))), ((ma 95), .inl (cy 1, 1000, .inl (fun _ => 0))), ((ma 97), .inl (cy 1, 101, .inl (fun _ => 0))), ((ma 98), .inl (cy 1, 101, .inl (fun _ => 0))), ((ma 99), .inl (cy 1, 101, .inl (fun _ => 0))), ((ma 100), .inl (cy 1, 101, .inl (fun _ => 0)))]) (w1 := []) hP hD [0, 1, 3, 4, 5, 6, 7, 8, 9, 10] [67, 68, 69, 70, 71, 72, 73, 74, 75, 76, 77, 78, 79, 80, 81, 82, 83, 84, 85, 86, 87, 88, 89, 90, 91, 92, 93, 94, 95] rfl rfl (by decide) (by decide) hk1 hFc ht hB
  have hP : va_P D vwCl [((ma 200), mo_0 ma), ((ma 11), .inl (cy 3, 8, .inl (fun _ => 0))), ((ma 12), .inl (cy 1, 8, .inl (fun _ => 0))), ((ma 13), .inl (cy 1, 8, .inl (fun _ => 0))), ((ma 14), .inl (cy 3, 12, .inl (fun _ => 0))), ((ma 15), .inl (cy 1, 12, .inl (fun _ => 0))), ((ma 16), .inl (cy 1, 12, .inl (fun _ => 0))), ((ma 17), .inl (cy 1, 12, .inl (fun _ => 0))), ((ma 18), .inl (cy 1, 12, .inl (fun _ => 0))), ((ma 19), .inl (cy 3, 12, .inl (fun _ => 0))), ((ma 20), .inl (cy 3, 8, .inl (fun _ => 0))), ((ma 21), .inl (cy 1, 8, .inl (fun _ => 0))), ((ma 22), .inl (cy 1, 8, .inl (fun _ => 0))), ((ma 23), .inl (cy 1, 8, .inl (fun _ => 0))), ((ma 24), .inl (cy 1, 8, .inl (fun _ => 0))), ((ma 33), .inl (cy 1, 600, .inl (fun _ => 0))), ((ma 68), .inl (cy 1, 8, .inl (fun _ => 0))), ((ma 69), .inl (cy 1, 8, .inl (fun _ => 0))), ((ma 70), .inl (cy 1, 8, .inl (fun _ => 0))), ((ma 73), .inl (cy 1, 241, .inl (fun _ => 0))), ((ma 74), .inl (cy 1, 241, .inl (fun _ => 0))), ((ma 75), .inl (cy 1, 241, .inl (upd (fun _ => 0) 0 1))), ((ma 93), .inl (cy 1, 1000, .inl (fun _ => 0))), ((ma 94), .inl (cy 3, 1001, .inl (fun _ => 0))), ((ma 95), .inl (cy 1, 1000, .inl (fun _ => 0))), ((ma 97), .inl (cy 1, 101, .inl (fun _ => 0))), ((ma 98), .inl (cy 1, 101, .inl (fun _ => 0))), ((ma 99), .inl (cy 1, 101, .inl (fun _ => 0))), ((ma 100), .inl (cy 1, 101, .inl (fun _ => 0)))] H := hP
  have hD : va_D A [((ma 200), mo_0 ma), ((ma 11), .inl (cy 3, 8, .inl (fun _ => 0))), ((ma 12), .inl (cy 1, 8, .inl (fun _ => 0))), ((ma 13), .inl (cy 1, 8, .inl (fun _ => 0))), ((ma 14), .inl (cy 3, 12, .inl (fun _ => 0))), ((ma 15), .inl (cy 1, 12, .inl (fun _ => 0))), ((ma 16), .inl (cy 1, 12, .inl (fun _ => 0))), ((ma 17), .inl (cy 1, 12, .inl (fun _ => 0))), ((ma 18), .inl (cy 1, 12, .inl (fun _ => 0))), ((ma 19), .inl (cy 3, 12, .inl (fun _ => 0))), ((ma 20), .inl (cy 3, 8, .inl (fun _ => 0))), ((ma 21), .inl (cy 1, 8, .inl (fun _ => 0))), ((ma 22), .inl (cy 1, 8, .inl (fun _ => 0))), ((ma 23), .inl (cy 1, 8, .inl (fun _ => 0))), ((ma 24), .inl (cy 1, 8, .inl (fun _ => 0))), ((ma 33), .inl (cy 1, 600, .inl (fun _ => 0))), ((ma 68), .inl (cy 1, 8, .inl (fun _ => 0))), ((ma 69), .inl (cy 1, 8, .inl (fun _ => 0))), ((ma 70), .inl (cy 1, 8, .inl (fun _ => 0))), ((ma 73), .inl (cy 1, 241, .inl (fun _ => 0))), ((ma 74), .inl (cy 1, 241, .inl (fun _ => 0))), ((ma 75), .inl (cy 1, 241, .inl (upd (fun _ => 0) 0 1))), ((ma 93), .inl (cy 1, 1000, .inl (fun _ => 0))), ((ma 94), .inl (cy 3, 1001, .inl (fun _ => 0))), ((ma 95), .inl (cy 1, 1000, .inl (fun _ => 0))), ((ma 97), .inl (cy 1, 101, .inl (fun _ => 0))), ((ma 98), .inl (cy 1, 101, .inl (fun _ => 0))), ((ma 99), .inl (cy 1, 101, .inl (fun _ => 0))), ((ma 100), .inl (cy 1, 101, .inl (fun _ => 0)))] := hD
  obtain rfl : r_1 = 0 := hw
  refine lv_aload_n hx hb dL_law_878 rfl (lv_at hl 1 rfl) ?_
  have hPc := hP.sub (ws' := [((ma 200), mo_0 ma), ((ma 68), .inl (cy 1, 8, .inl (fun _ => 0))), ((ma 69), .inl (cy 1, 8, .inl (fun _ => 0))), ((ma 70), .inl (cy 1, 8, .inl (fun _ => 0))), ((ma 73), .inl (cy 1, 241, .inl (fun _ => 0))), ((ma 74), .inl (cy 1, 241, .inl (fun _ => 0))), ((ma 75), .inl (cy 1, 241, .inl (upd (fun _ => 0) 0 1)))]) [0, 16, 17, 18, 19, 20, 21] rfl
  have hDc := hD.sub (ws' := [((ma 200), mo_0 ma), ((ma 68), .inl (cy 1, 8, .inl (fun _ => 0))), ((ma 69), .inl (cy 1, 8, .inl (fun _ => 0))), ((ma 70), .inl (cy 1, 8, .inl (fun _ => 0))), ((ma 73), .inl (cy 1, 241, .inl (fun _ => 0))), ((ma 74), .inl (cy 1, 241, .inl (fun _ => 0))), ((ma 75), .inl (cy 1, 241, .inl (upd (fun _ => 0) 0 1)))]) [0, 16, 17, 18, 19, 20, 21] (by decide) rfl
  have hFc := va_free (wc := [((ma 200), mo_0 ma), ((ma 68), .inl (cy 1, 8, .inl (fun _ => 0))), ((ma 69), .inl (cy 1, 8, .inl (fun _ => 0))), ((ma 70), .inl (cy 1, 8, .inl (fun _ => 0))), ((ma 73), .inl (cy 1, 241, .inl (fun _ => 0))), ((ma 74), .inl (cy 1, 241, .inl (fun _ => 0))), ((ma 75), .inl (cy 1, 241, .inl (upd (fun _ => 0) 0 1)))]) hD hS hA [0, 16, 17, 18, 19, 20, 21] rfl
  refine va_calli (va_runV (As := []) (rest := [.int 0]) ⟨hx, hb, hml, hown, hts⟩ (kX12_walk l D cy H.size ma) (cwV 0 hts gc_kX12_walk rfl rfl rfl (by decide +kernel) ⟨Nat.le_of_ble_eq_true rfl, Nat.le_of_ble_eq_true rfl⟩) (gp_preV (RX12, TX12, 104) 12 0 hPc hDc hK hN rfl rfl) rfl rfl hl.1 rfl (lv_room (Nat.le_of_ble_eq_true rfl)) dL_law_879 ⟨Nat.le_of_ble_eq_true rfl, Nat.le_of_ble_eq_true rfl⟩) hS (fun q _ h => hFc q h) hFc (fun r_2 u t H locs ht hvm hw hB hz1 hk1 hS => ?_)
  obtain ⟨hP, hD⟩ := gp_join (wr := []) (w1 := []) hP hD [0, 16, 17, 18, 19, 20, 21] [] rfl rfl (by decide) (by decide) hk1 hFc ht hB
  have hP : va_P D vwCl [] H := hP
  have hD : va_D A [] := hD
  obtain rfl : r_2 = 0 := hw
  refine lv_icmp_eq (tgt := 1364) hx hb dL_law_882 (by decide) (fun c_3 => ?_) (fun c_3 => absurd (by decide) c_3)
  refine lv_iinc (v := 7) (lv' := [(3, .int 7), (2, .ref (ma 200)), (1, .ref (xa 0)), (0, .ref b)]) hx hb dL_law_1364 hl (k := 0) rfl (by decide) (by decide) rfl (fun ls hl => ?_)
  refine lv_goto (tgt := 18) hx hb dL_law_1367 (by decide) ?_
  refine lv_iload_n hx hb dL_law_18 rfl (lv_at hl 0 rfl) ?_
  refine lv_aload_n hx hb dL_law_19 rfl (lv_at hl 3 rfl) ?_
  refine va_slen hx hb hX hbl hbA hS dL_law_20 ?_
  refine gp_ni 7 rfl ?_
  refine lv_bipush (v := 7) hx hb dL_law_21 (by decide) ?_
  refine lv_isub hx hb dL_law_23 ?_
  refine gp_ni 0 (by decide) ?_
  refine lv_icmp_gt (tgt := 1370) hx hb dL_law_24 (by decide) (fun c_4 => ?_) (fun c_4 => absurd (by decide) c_4)
  refine lv_iconst (v := 1) hx hb dL_law_1370 (by decide) ?_
  refine va_forget (fun q hq => hSA _ (hS.2.2 q hq)) ?_
  refine W.widen (k := 600000) (n := 7302250) (by decide) (by decide) ?_
  exact lw_ret hx hb hr hlocks dL_law_1371

set_option maxHeartbeats 4000000 in
set_option maxRecDepth 100000 in
theorem law_16 {p : Program} {e : Env} {s : State} {m : MethodId} {below : List Frame} {meth : Method} {c : Code} (l : Launch) {b : Nat} {xs : Nat → Int32} (C0 : lw_At p s m meth c b 7 xs) {D : va_G} {cy : Nat → ClassId} (hK : va_K D vwCl (gp_T cy) s) (hN : gp_N s) (xa ma : Nat → Nat) (fO : Nat → Option Nat) (hO : fO 0 = some (xa 6)) {A : Nat → Prop} (hAe : A = (fun q : Nat => s.heap.size ≤ q)) {H : Heap} {locs : List Loc} {ls : Array Slot} (hP : va_P D vwCl (lw_W cy xa ma fO) H) (hD : va_D A (lw_W cy xa ma fO)) (hS : va_S A s.heap H locs) (hl : lv_has ls 4 [(3, .int 0), (2, .ref (ma 200)), (1, .ref (xa 0)), (0, .ref b)]) : W p l e room_1 s m #[Value.ref b] below meth c H locs 153 14835 (lw_Z below #[Value.ref b] s) (F0 m 887 ls []) := by
  obtain ⟨hx, hb, hr, hml, hown, hts, hX, hbl, hlocks, hgv⟩ := id C0
  have hown : s.vm.findClass RL = some m.cls := hown
  have hA : ∀ q : Nat, s.heap.size ≤ q → A q := fun q h => by rw [hAe]; exact h
  have hbA : ¬ A b := by rw [hAe]; exact Nat.not_le.mpr hbl
  have hSA : ∀ q : Nat, A q → s.heap.size ≤ q := fun q h => by rw [hAe] at h; exact h
  refine lv_aload_n hx hb dL_law_887 rfl (lv_at hl 2 rfl) ?_
  refine lv_aload_n hx hb dL_law_888 rfl (lv_at hl 3 rfl) ?_
  refine lv_iload_n hx hb dL_law_889 rfl (lv_at hl 0 rfl) ?_
  refine lv_iconst (v := 1) hx hb dL_law_890 (by decide) ?_
  refine lv_iadd hx hb dL_law_891 ?_
  refine gp_ni 1 (by decide) ?_
  refine va_sld hx hb hX hbl hbA hS (by unfold vp_in; decide) dL_law_892 ?_
  refine gp_ni (xs 1) rfl ?_
  have hPc := hP.sub (ws' := [((xa 0), .inr (11, [.ref (xa 1), .ref (xa 3), .ref (xa 7), .ref (xa 11), .ref (xa 20), .ref (xa 24), .ref (xa 25), .ref (xa 29)])), ((xa 1), .inr (9, [.int 0, .int 0, .int (-1), .int 0, .int 0, .int 0, .ref (xa 2)]))]) [0, 1] rfl
  have hDc := hD.sub (ws' := [((xa 0), .inr (11, [.ref (xa 1), .ref (xa 3), .ref (xa 7), .ref (xa 11), .ref (xa 20), .ref (xa 24), .ref (xa 25), .ref (xa 29)])), ((xa 1), .inr (9, [.int 0, .int 0, .int (-1), .int 0, .int 0, .int 0, .ref (xa 2)]))]) [0, 1] (by decide) rfl
  have hFc := va_free (wc := [((xa 0), .inr (11, [.ref (xa 1), .ref (xa 3), .ref (xa 7), .ref (xa 11), .ref (xa 20), .ref (xa 24), .ref (xa 25), .ref (xa 29)])), ((xa 1), .inr (9, [.int 0, .int 0, .int (-1), .int 0, .int 0, .int 0, .ref (xa 2)]))]) hD hS hA [0, 1] rfl
  refine va_calli (va_runV (As := [.int (xs 1)]) (rest := []) ⟨hx, hb, hml, hown, hts⟩ (kX11_fault l D cy H.size xa (xs 1)) (cwV 1 hts gc_kX11_fault rfl rfl rfl (by decide +kernel) ⟨Nat.le_of_ble_eq_true rfl, Nat.le_of_ble_eq_true rfl⟩) (gp_preV (RX11, TX11, 8) 11 0 hPc hDc hK hN rfl rfl) rfl rfl hl.1 rfl (lv_room (Nat.le_of_ble_eq_true rfl)) dL_law_893 ⟨Nat.le_of_ble_eq_true rfl, Nat.le_of_ble_eq_true rfl⟩) hS (fun q _ h => hFc q h) hFc (fun r_1 u t H locs ht hvm hw hB hz1 hk1 hS => ?_)
  obtain ⟨hP, hD⟩ := gp_join (wr := [((ma 200), mo_0 ma), ((ma 11), .inl (cy 3, 8, .inl (fun _ => 0))), ((ma 12), .inl (cy 1, 8, .inl (fun _ => 0))), ((ma 13), .inl (cy 1, 8, .inl (fun _ => 0))), ((ma 14), .inl (cy 3, 12, .inl (fun _ => 0))), ((ma 15), .inl (cy 1, 12, .inl (fun _ => 0))), ((ma 16), .inl (cy 1, 12, .inl (fun _ => 0))), ((ma 17), .inl (cy 1, 12, .inl (fun _ => 0))), ((ma 18), .inl (cy 1, 12, .inl (fun _ => 0))), ((ma 19), .inl (cy 3, 12, .inl (fun _ => 0))), ((ma 20), .inl (cy 3, 8, .inl (fun _ => 0))), ((ma 21), .inl (cy 1, 8, .inl (fun _ => 0))), ((ma 22), .inl (cy 1, 8, .inl (fun _ => 0))), ((ma 23), .inl (cy 1, 8, .inl (fun _ => 0))), ((ma 24), .inl (cy 1, 8, .inl (fun _ => 0))), ((ma 33), .inl (cy 1, 600, .inl (fun _ => 0))), ((ma 68), .inl (cy 1, 8, .inl (fun _ => 0))), ((ma 69), .inl (cy 1, 8, .inl (fun _ => 0))), ((ma 70), .inl (cy 1, 8, .inl (fun _ => 0))), ((ma 73), .inl (cy 1, 241, .inl (fun _ => 0))), ((ma 74), .inl (cy 1, 241, .inl (fun _ => 0))), ((ma 75), .inl (cy 1, 241, .inl (upd (fun _ => 0) 0 1))), ((ma 93), .inl (cy 1, 1000, .inl (fun _ => 0))), ((ma 94), .inl (cy 3, 1001, .inl (fun _ => 0))), ((ma 95), .inl (cy 1, 1000, .inl (fun _ => 0))), ((ma 97), .inl (cy 1, 101, .inl (fun _ => 0))), ((ma 98), .inl (cy 1, 101, .inl (fun _ => 0))), ((ma 99), .inl (cy 1, 101, .inl (fun _ => 0))), ((ma 100), .inl (cy 1, 101, .inl (fun _ => 0)))]) (w1 := []) hP hD [0, 1] [67, 68, 69, 70, 71, 72, 73, 74, 75, 76, 77, 78, 79, 80, 81, 82, 83, 84, 85, 86, 87, 88, 89, 90, 91, 92, 93, 94, 95] rfl rfl (by decide) (by decide) hk1 hFc ht hB
  have hP : va_P D vwCl [((ma 200), mo_0 ma), ((ma 11), .inl (cy 3, 8, .inl (fun _ => 0))), ((ma 12), .inl (cy 1, 8, .inl (fun _ => 0))), ((ma 13), .inl (cy 1, 8, .inl (fun _ => 0))), ((ma 14), .inl (cy 3, 12, .inl (fun _ => 0))), ((ma 15), .inl (cy 1, 12, .inl (fun _ => 0))), ((ma 16), .inl (cy 1, 12, .inl (fun _ => 0))), ((ma 17), .inl (cy 1, 12, .inl (fun _ => 0))), ((ma 18), .inl (cy 1, 12, .inl (fun _ => 0))), ((ma 19), .inl (cy 3, 12, .inl (fun _ => 0))), ((ma 20), .inl (cy 3, 8, .inl (fun _ => 0))), ((ma 21), .inl (cy 1, 8, .inl (fun _ => 0))), ((ma 22), .inl (cy 1, 8, .inl (fun _ => 0))), ((ma 23), .inl (cy 1, 8, .inl (fun _ => 0))), ((ma 24), .inl (cy 1, 8, .inl (fun _ => 0))), ((ma 33), .inl (cy 1, 600, .inl (fun _ => 0))), ((ma 68), .inl (cy 1, 8, .inl (fun _ => 0))), ((ma 69), .inl (cy 1, 8, .inl (fun _ => 0))), ((ma 70), .inl (cy 1, 8, .inl (fun _ => 0))), ((ma 73), .inl (cy 1, 241, .inl (fun _ => 0))), ((ma 74), .inl (cy 1, 241, .inl (fun _ => 0))), ((ma 75), .inl (cy 1, 241, .inl (upd (fun _ => 0) 0 1))), ((ma 93), .inl (cy 1, 1000, .inl (fun _ => 0))), ((ma 94), .inl (cy 3, 1001, .inl (fun _ => 0))), ((ma 95), .inl (cy 1, 1000, .inl (fun _ => 0))), ((ma 97), .inl (cy 1, 101, .inl (fun _ => 0))), ((ma 98), .inl (cy 1, 101, .inl (fun _ => 0))), ((ma 99), .inl (cy 1, 101, .inl (fun _ => 0))), ((ma 100), .inl (cy 1, 101, .inl (fun _ => 0)))] H := hP
  have hD : va_D A [((ma 200), mo_0 ma), ((ma 11), .inl (cy 3, 8, .inl (fun _ => 0))), ((ma 12), .inl (cy 1, 8, .inl (fun _ => 0))), ((ma 13), .inl (cy 1, 8, .inl (fun _ => 0))), ((ma 14), .inl (cy 3, 12, .inl (fun _ => 0))), ((ma 15), .inl (cy 1, 12, .inl (fun _ => 0))), ((ma 16), .inl (cy 1, 12, .inl (fun _ => 0))), ((ma 17), .inl (cy 1, 12, .inl (fun _ => 0))), ((ma 18), .inl (cy 1, 12, .inl (fun _ => 0))), ((ma 19), .inl (cy 3, 12, .inl (fun _ => 0))), ((ma 20), .inl (cy 3, 8, .inl (fun _ => 0))), ((ma 21), .inl (cy 1, 8, .inl (fun _ => 0))), ((ma 22), .inl (cy 1, 8, .inl (fun _ => 0))), ((ma 23), .inl (cy 1, 8, .inl (fun _ => 0))), ((ma 24), .inl (cy 1, 8, .inl (fun _ => 0))), ((ma 33), .inl (cy 1, 600, .inl (fun _ => 0))), ((ma 68), .inl (cy 1, 8, .inl (fun _ => 0))), ((ma 69), .inl (cy 1, 8, .inl (fun _ => 0))), ((ma 70), .inl (cy 1, 8, .inl (fun _ => 0))), ((ma 73), .inl (cy 1, 241, .inl (fun _ => 0))), ((ma 74), .inl (cy 1, 241, .inl (fun _ => 0))), ((ma 75), .inl (cy 1, 241, .inl (upd (fun _ => 0) 0 1))), ((ma 93), .inl (cy 1, 1000, .inl (fun _ => 0))), ((ma 94), .inl (cy 3, 1001, .inl (fun _ => 0))), ((ma 95), .inl (cy 1, 1000, .inl (fun _ => 0))), ((ma 97), .inl (cy 1, 101, .inl (fun _ => 0))), ((ma 98), .inl (cy 1, 101, .inl (fun _ => 0))), ((ma 99), .inl (cy 1, 101, .inl (fun _ => 0))), ((ma 100), .inl (cy 1, 101, .inl (fun _ => 0)))] := hD
  obtain rfl : r_1 = (if (xs 1) = 0 then 0 else (-1)) := hw
  refine lv_aload_n hx hb dL_law_896 rfl (lv_at hl 1 rfl) ?_
  refine lv_aload_n hx hb dL_law_897 rfl (lv_at hl 3 rfl) ?_
  refine lv_iload_n hx hb dL_law_898 rfl (lv_at hl 0 rfl) ?_
  refine lv_iconst (v := 1) hx hb dL_law_899 (by decide) ?_
  refine lv_iadd hx hb dL_law_900 ?_
  refine gp_ni 1 (by decide) ?_
  refine va_sld hx hb hX hbl hbA hS (by unfold vp_in; decide) dL_law_901 ?_
  refine gp_ni (xs 1) rfl ?_
  have hPc := hP.sub (ws' := [((ma 200), mo_0 ma)]) [0] rfl
  have hDc := hD.sub (ws' := [((ma 200), mo_0 ma)]) [0] (by decide) rfl
  have hFc := va_free (wc := [((ma 200), mo_0 ma)]) hD hS hA [0] rfl
  refine va_calli (va_runV (As := [.int (xs 1)]) (rest := [.int (if (xs 1) = 0 then 0 else (-1))]) ⟨hx, hb, hml, hown, hts⟩ (kX12_fault l D cy H.size ma (xs 1)) (cwV 1 hts gc_kX12_fault rfl rfl rfl (by decide +kernel) ⟨Nat.le_of_ble_eq_true rfl, Nat.le_of_ble_eq_true rfl⟩) (gp_preV (RX12, TX12, 104) 12 0 hPc hDc hK hN rfl rfl) rfl rfl hl.1 rfl (lv_room (Nat.le_of_ble_eq_true rfl)) dL_law_902 ⟨Nat.le_of_ble_eq_true rfl, Nat.le_of_ble_eq_true rfl⟩) hS (fun q _ h => hFc q h) hFc (fun r_2 u t H locs ht hvm hw hB hz1 hk1 hS => ?_)
  obtain ⟨hP, hD⟩ := gp_join (wr := []) (w1 := []) hP hD [0] [] rfl rfl (by decide) (by decide) hk1 hFc ht hB
  have hP : va_P D vwCl [] H := hP
  have hD : va_D A [] := hD
  obtain rfl : r_2 = (if (xs 1) = 0 then 0 else (-1)) := hw
  refine lv_icmp_eq (tgt := 1364) hx hb dL_law_905 (by decide) (fun c_3 => ?_) (fun c_3 => absurd rfl c_3)
  refine lv_iinc (v := 7) (lv' := [(3, .int 7), (2, .ref (ma 200)), (1, .ref (xa 0)), (0, .ref b)]) hx hb dL_law_1364 hl (k := 0) rfl (by decide) (by decide) rfl (fun ls hl => ?_)
  refine lv_goto (tgt := 18) hx hb dL_law_1367 (by decide) ?_
  refine lv_iload_n hx hb dL_law_18 rfl (lv_at hl 0 rfl) ?_
  refine lv_aload_n hx hb dL_law_19 rfl (lv_at hl 3 rfl) ?_
  refine va_slen hx hb hX hbl hbA hS dL_law_20 ?_
  refine gp_ni 7 rfl ?_
  refine lv_bipush (v := 7) hx hb dL_law_21 (by decide) ?_
  refine lv_isub hx hb dL_law_23 ?_
  refine gp_ni 0 (by decide) ?_
  refine lv_icmp_gt (tgt := 1370) hx hb dL_law_24 (by decide) (fun c_4 => ?_) (fun c_4 => absurd (by decide) c_4)
  refine lv_iconst (v := 1) hx hb dL_law_1370 (by decide) ?_
  refine va_forget (fun q hq => hSA _ (hS.2.2 q hq)) ?_
  refine W.widen (k := 600000) (n := 7302250) (by decide) (by decide) ?_
  exact lw_ret hx hb hr hlocks dL_law_1371
