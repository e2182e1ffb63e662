theorem gp_ofL {L : Nat} (hL : L ≤ 3584) : (Int32.ofNat L).toInt = L := Int32.toInt_ofNat_of_lt (by omega)
theorem gp_lsub {L : Nat} (hL : L ≤ 3584) : (Int32.ofNat L - 7).toInt = (L : Int) - 7 := by
  have c7 : (7 : Int32).toInt = 7 := by decide
  rw [Int32.toInt_sub, gp_ofL hL, c7]
  exact Int.bmod_eq_of_le (by omega) (by omega)
theorem gp_lend {L : Nat} {ix : Int32} (hL : L ≤ 3584) (h0 : 0 ≤ ix) (h : (L : Int) - ix.toInt < 0) : Int32.ofNat L - 7 < ix := Int32.lt_iff_toInt_lt.mpr (by rw [gp_lsub hL]; omega)
theorem gp_lle {L : Nat} {ix : Int32} (hL : L ≤ 3584) (hc : ¬ Int32.ofNat L - 7 < ix) : ix.toInt + 7 ≤ L := by
  have : ¬ (Int32.ofNat L - 7).toInt < ix.toInt := fun z => hc (Int32.lt_iff_toInt_lt.mpr z)
  rw [gp_lsub hL] at this
  omega
theorem gp_ladd {L k : Nat} {ix : Int32} (hL : L ≤ 3584) (h0 : 0 ≤ ix) (hc : ¬ Int32.ofNat L - 7 < ix) (hk : k ≤ 7) : (ix + Int32.ofNat k).toInt = ix.toInt + k := by
  have h1 := gp_lle hL hc
  have c0 : (0 : Int32).toInt = 0 := by decide
  have h2 := Int32.le_iff_toInt_le.mp h0
  have e : (Int32.ofNat k).toInt = k := Int32.toInt_ofNat_of_lt (by omega)
  rw [Int32.toInt_add, e]
  exact Int.bmod_eq_of_le (by omega) (by omega)
theorem gp_lin {L : Nat} {ix : Int32} (hL : L ≤ 3584) (h0 : 0 ≤ ix) (hc : ¬ Int32.ofNat L - 7 < ix) : ∀ k : Nat, k < 7 → vp_in (ix + Int32.ofNat k) L := by
  intro k hk
  rw [vp_in_iff, gp_ladd hL h0 hc (by omega)]
  have h1 := gp_lle hL hc
  have c0 : (0 : Int32).toInt = 0 := by decide
  have h2 := Int32.le_iff_toInt_le.mp h0
  omega
theorem gp_ldec {L fu : Nat} {ix : Int32} (hL : L ≤ 3584) (h0 : 0 ≤ ix) (hc : ¬ Int32.ofNat L - 7 < ix) (hm : (L : Int) - ix.toInt < (fu + 1 : Nat)) : (L : Int) - (ix + 7).toInt < fu := by
  have e : (ix + 7).toInt = ix.toInt + 7 := gp_ladd (k := 7) hL h0 hc (by omega)
  omega
theorem gp_lnn {L : Nat} {ix : Int32} (hL : L ≤ 3584) (h0 : 0 ≤ ix) (hc : ¬ Int32.ofNat L - 7 < ix) : 0 ≤ ix + 7 := by
  have e : (ix + 7).toInt = ix.toInt + 7 := gp_ladd (k := 7) hL h0 hc (by omega)
  have c0 : (0 : Int32).toInt = 0 := by decide
  have h2 := Int32.le_iff_toInt_le.mp h0
  exact Int32.le_iff_toInt_le.mpr (by omega)
theorem gp_l0 (L : Nat) : (L : Int) - (0 : Int32).toInt < ((L + 1 : Nat) : Int) := by
  have h9 : (0 : Int32).toInt = 0 := by decide
  omega
theorem gp_inj0 : gp_inj gp_po0 gp_pg0 := by
  refine ⟨fun i j hi hj h => ?_, fun i j hi hj h => ?_, fun i j hi hj h => ?_⟩
  · simp only [gp_po0, if_pos hi, if_pos hj] at h; exact h
  · simp only [gp_pg0, if_pos hi, if_pos hj] at h; omega
  · simp only [gp_po0, gp_pg0, if_pos hi, if_pos hj] at h; omega
theorem gp0_f_po : ∀ i, gp_po0 i < 19 := fun i => by unfold gp_po0; split <;> omega
theorem gp0_f_pg : ∀ i, gp_pg0 i < 19 := fun i => by unfold gp_pg0; split <;> omega
set_option maxHeartbeats 4000000 in
set_option maxRecDepth 100000 in
theorem law_loop {p : Program} {e : Env} {s : State} {m : MethodId} {below : List Frame} {meth : Method} {c : Code} (l : Launch) {b L : Nat} {xs : Nat → Int32} (hL : L ≤ 3584) (C0 : lw_At p s m meth c b L xs) {D : va_G} {cy : Nat → ClassId} (hK : va_K D vwCl (gp_T cy) s) (hN : gp_N s) (xa ma : Nat → Nat) {A : Nat → Prop} (hAe : A = (fun q : Nat => s.heap.size ≤ q)) {sk sv : Nat → Nat} (hZ : gp_Z sk sv A s s.heap) : ∀ (fu : Nat) (ix : Int32) (H : Heap) (locs : List Loc) (ls : Array Slot), (L : Int) - ix.toInt < fu → 0 ≤ ix → lw_G D cy A xa ma H → va_S A s.heap H locs → lv_has ls 4 [(3, .int ix), (2, .ref (ma 200)), (1, .ref (xa 0)), (0, .ref b)] → W p l e room_1 s m #[Value.ref b] below meth c H locs 153 14835 (lw_Z below #[Value.ref b] s) (F0 m 18 ls []) := by
  obtain ⟨hx, hb, hr, hml, hown, hts, hX, hbl, hlocks, hgv⟩ := id C0
  have hown : s.vm.findClass RL = some m.cls := hown
  have hA : ∀ q : Nat, s.heap.size ≤ q → A q := fun q h => by rw [hAe]; exact h
  have hbA : ¬ A b := by rw [hAe]; exact Nat.not_le.mpr hbl
  have hSA : ∀ q : Nat, A q → s.heap.size ≤ q := fun q h => by rw [hAe] at h; exact h
  intro fu
  induction fu with
  | zero =>
    intro ix H locs ls hm h0 hG hS hl
    have hc : Int32.ofNat L - 7 < ix := gp_lend hL h0 (by omega)
    refine lv_iload_n hx hb dL_law_18 rfl (lv_at hl 0 rfl) ?_
    refine lv_aload_n hx hb dL_law_19 rfl (lv_at hl 3 rfl) ?_
    refine va_slen hx hb hX hbl hbA hS dL_law_20 ?_
    refine lv_bipush (v := 7) hx hb dL_law_21 (by decide) ?_
    refine lv_isub hx hb dL_law_23 ?_
    refine lv_icmp_gt (tgt := 1369) hx hb dL_law_24 (by decide) (fun _ => ?_) (fun h9 => absurd hc h9)
    refine lv_iconst (v := 1) hx hb dL_law_1369 (by decide) ?_
    refine va_forget (fun q hq => hSA _ (hS.2.2 q hq)) ?_
    refine W.widen (k := 600000) (n := 7302250) (by decide) (by decide) ?_
    exact lw_ret hx hb hr hlocks dL_law_1370
  | succ fu ih =>
    intro ix H locs ls hm h0 hG hS hl
    refine lv_iload_n hx hb dL_law_18 rfl (lv_at hl 0 rfl) ?_
    refine lv_aload_n hx hb dL_law_19 rfl (lv_at hl 3 rfl) ?_
    refine va_slen hx hb hX hbl hbA hS dL_law_20 ?_
    refine lv_bipush (v := 7) hx hb dL_law_21 (by decide) ?_
    refine lv_isub hx hb dL_law_23 ?_
    refine lv_icmp_gt (tgt := 1369) hx hb dL_law_24 (by decide) (fun hc => ?_) (fun hc => ?_)
    · refine lv_iconst (v := 1) hx hb dL_law_1369 (by decide) ?_
      refine va_forget (fun q hq => hSA _ (hS.2.2 q hq)) ?_
      refine W.widen (k := 600000) (n := 7302250) (by decide) (by decide) ?_
      exact lw_ret hx hb hr hlocks dL_law_1370
    have hin := gp_lin hL h0 hc
    have hin0 : vp_in ix L := by have := hin 0 (by decide); simpa using this
    refine lv_aload_n hx hb dL_law_27 rfl (lv_at hl 3 rfl) ?_
    refine lv_iload_n hx hb dL_law_28 rfl (lv_at hl 0 rfl) ?_
    refine va_sld hx hb hX hbl hbA hS hin0 dL_law_29 ?_
    refine lv_bipush (v := 63) hx hb dL_law_30 (by decide) ?_
    refine lv_iand hx hb dL_law_32 ?_
    generalize hsw : (xs ix.toNatClampNeg &&& 63) = sw
    have hk : ∀ (H : Heap) (locs : List Loc) (ls : Array Slot), lw_G D cy A xa ma H → va_S A s.heap H locs → lv_has ls 4 [(3, .int ix), (2, .ref (ma 200)), (1, .ref (xa 0)), (0, .ref b)] → W p l e room_1 s m #[Value.ref b] below meth c H locs 153 14835 (lw_Z below #[Value.ref b] s) (F0 m 1363 ls []) := by
      intro H locs ls hG hS hl
      refine lv_iinc (v := (ix + 7)) (lv' := [(3, .int (ix + 7)), (2, .ref (ma 200)), (1, .ref (xa 0)), (0, .ref b)]) hx hb dL_law_1363 hl (k := 0) rfl rfl (by decide) rfl (fun ls hl => ?_)
      refine lv_goto (tgt := 18) hx hb dL_law_1366 (by decide) ?_
      exact ih (ix + 7) H locs _ (gp_ldec hL h0 hc hm) (gp_lnn hL h0 hc) hG hS (lv_sub hl [0, 1, 2, 3] rfl)
    by_cases k_0 : sw = 0
    · refine lv_tableIn (off := 147) (tgt := 180) hx hb dL_law_33 (by rw [k_0]; decide) (by rw [k_0]; decide) (by rw [k_0]; decide +kernel) (by decide) ?_
      exact law_0 l C0 hK hN xa ma hAe ix hin hG hS hl hk
    by_cases k_1 : sw = 1
    · refine lv_tableIn (off := 210) (tgt := 243) hx hb dL_law_33 (by rw [k_1]; decide) (by rw [k_1]; decide) (by rw [k_1]; decide +kernel) (by decide) ?_
      exact law_1 l C0 hK hN xa ma hAe ix hin hG hS hl hk
    by_cases k_2 : sw = 2
    · refine lv_tableIn (off := 233) (tgt := 266) hx hb dL_law_33 (by rw [k_2]; decide) (by rw [k_2]; decide) (by rw [k_2]; decide +kernel) (by decide) ?_
      exact law_2 l C0 hK hN xa ma hAe ix hin hG hS hl hk
    by_cases k_3 : sw = 3
    · refine lv_tableIn (off := 286) (tgt := 319) hx hb dL_law_33 (by rw [k_3]; decide) (by rw [k_3]; decide) (by rw [k_3]; decide +kernel) (by decide) ?_
      exact law_3 l C0 hK hN xa ma hAe ix hin hG hS hl hk
    by_cases k_4 : sw = 4
    · refine lv_tableIn (off := 339) (tgt := 372) hx hb dL_law_33 (by rw [k_4]; decide) (by rw [k_4]; decide) (by rw [k_4]; decide +kernel) (by decide) ?_
      exact law_4 l C0 hK hN xa ma hAe ix hin hG hS hl hk
    by_cases k_5 : sw = 5
    · refine lv_tableIn (off := 382) (tgt := 415) hx hb dL_law_33 (by rw [k_5]; decide) (by rw [k_5]; decide) (by rw [k_5]; decide +kernel) (by decide) ?_
      exact law_5 l C0 hK hN xa ma hAe ix hin hG hS hl hk
    by_cases k_6 : sw = 6
    · refine lv_tableIn (off := 425) (tgt := 458) hx hb dL_law_33 (by rw [k_6]; decide) (by rw [k_6]; decide) (by rw [k_6]; decide +kernel) (by decide) ?_
      exact law_6 l C0 hK hN xa ma hAe ix hin hG hS hl hk
    by_cases k_7 : sw = 7
    · refine lv_tableIn (off := 516) (tgt := 549) hx hb dL_law_33 (by rw [k_7]; decide) (by rw [k_7]; decide) (by rw [k_7]; decide +kernel) (by decide) ?_
      exact law_7 l C0 hK hN xa ma hAe ix hin hG hS hl hk
    by_cases k_8 : sw = 8
    · refine lv_tableIn (off := 579) (tgt := 612) hx hb dL_law_33 (by rw [k_8]; decide) (by rw [k_8]; decide) (by rw [k_8]; decide +kernel) (by decide) ?_
      exact law_8 l C0 hK hN xa ma hAe ix hin hG hS hl hk
    by_cases k_9 : sw = 9
    · refine lv_tableIn (off := 612) (tgt := 645) hx hb dL_law_33 (by rw [k_9]; decide) (by rw [k_9]; decide) (by rw [k_9]; decide +kernel) (by decide) ?_
      exact law_9 l C0 hK hN xa ma hAe ix hin hG hS hl hk
    by_cases k_10 : sw = 10
    · refine lv_tableIn (off := 655) (tgt := 688) hx hb dL_law_33 (by rw [k_10]; decide) (by rw [k_10]; decide) (by rw [k_10]; decide +kernel) (by decide) ?_
      exact law_10 l C0 hK hN xa ma hAe ix hin hG hS hl hk
    by_cases k_11 : sw = 11
    · refine lv_tableIn (off := 698) (tgt := 731) hx hb dL_law_33 (by rw [k_11]; decide) (by rw [k_11]; decide) (by rw [k_11]; decide +kernel) (by decide) ?_
      exact law_11 l C0 hK hN xa ma hAe ix hin hG hS hl hk
    by_cases k_12 : sw = 12
    · refine lv_tableIn (off := 741) (tgt := 774) hx hb dL_law_33 (by rw [k_12]; decide) (by rw [k_12]; decide) (by rw [k_12]; decide +kernel) (by decide) ?_
      exact law_12 l C0 hK hN xa ma hAe ix hin hG hS hl hk
    by_cases k_13 : sw = 13
    · refine lv_tableIn (off := 794) (tgt := 827) hx hb dL_law_33 (by rw [k_13]; decide) (by rw [k_13]; decide) (by rw [k_13]; decide +kernel) (by decide) ?_
      exact law_13 l C0 hK hN xa ma hAe ix hin hG hS hl hk
    by_cases k_14 : sw = 14
    · refine lv_tableIn (off := 827) (tgt := 860) hx hb dL_law_33 (by rw [k_14]; decide) (by rw [k_14]; decide) (by rw [k_14]; decide +kernel) (by decide) ?_
      exact law_14 l C0 hK hN xa ma hAe ix hin hG hS hl hk
    by_cases k_15 : sw = 15
    · refine lv_tableIn (off := 840) (tgt := 873) hx hb dL_law_33 (by rw [k_15]; decide) (by rw [k_15]; decide) (by rw [k_15]; decide +kernel) (by decide) ?_
      exact law_15 l C0 hK hN xa ma hAe hZ ix hin hG hS hl hk
    by_cases k_16 : sw = 16
    · refine lv_tableIn (off := 853) (tgt := 886) hx hb dL_law_33 (by rw [k_16]; decide) (by rw [k_16]; decide) (by rw [k_16]; decide +kernel) (by decide) ?_
      exact law_16 l C0 hK hN xa ma hAe ix hin hG hS hl hk
    by_cases k_17 : sw = 17
    · refine lv_tableIn (off := 876) (tgt := 909) hx hb dL_law_33 (by rw [k_17]; decide) (by rw [k_17]; decide) (by rw [k_17]; decide +kernel) (by decide) ?_
      exact law_17 l C0 hK hN xa ma hAe ix hin hG hS hl hk
    by_cases k_18 : sw = 18
    · refine lv_tableIn (off := 909) (tgt := 942) hx hb dL_law_33 (by rw [k_18]; decide) (by rw [k_18]; decide) (by rw [k_18]; decide +kernel) (by decide) ?_
      exact law_18 l C0 hK hN xa ma hAe ix hin hG hS hl hk
    by_cases k_19 : sw = 19
    · refine lv_tableIn (off := 942) (tgt := 975) hx hb dL_law_33 (by rw [k_19]; decide) (by rw [k_19]; decide) (by rw [k_19]; decide +kernel) (by decide) ?_
      exact law_19 l C0 hK hN xa ma hAe ix hin hG hS hl hk
    by_cases k_20 : sw = 20
    · refine lv_tableIn (off := 965) (tgt := 998) hx hb dL_law_33 (by rw [k_20]; decide) (by rw [k_20]; decide) (by rw [k_20]; decide +kernel) (by decide) ?_
      exact law_20 l C0 hK hN xa ma hAe ix hin hG hS hl hk
    by_cases k_21 : sw = 21
    · refine lv_tableIn (off := 978) (tgt := 1011) hx hb dL_law_33 (by rw [k_21]; decide) (by rw [k_21]; decide) (by rw [k_21]; decide +kernel) (by decide) ?_
      exact law_21 l C0 hK hN xa ma hAe ix hin hG hS hl hk
    by_cases k_22 : sw = 22
    · refine lv_tableIn (off := 1041) (tgt := 1074) hx hb dL_law_33 (by rw [k_22]; decide) (by rw [k_22]; decide) (by rw [k_22]; decide +kernel) (by decide) ?_
      exact law_22 l C0 hK hN xa ma hAe ix hin hG hS hl hk
    by_cases k_23 : sw = 23
    · refine lv_tableIn (off := 1064) (tgt := 1097) hx hb dL_law_33 (by rw [k_23]; decide) (by rw [k_23]; decide) (by rw [k_23]; decide +kernel) (by decide) ?_
      exact law_23 l C0 hK hN xa ma hAe ix hin hG hS hl hk
    by_cases k_24 : sw = 24
    · refine lv_tableIn (off := 1077) (tgt := 1110) hx hb dL_law_33 (by rw [k_24]; decide) (by rw [k_24]; decide) (by rw [k_24]; decide +kernel) (by decide) ?_
      exact law_24 l C0 hK hN xa ma hAe ix hin hG hS hl hk
    by_cases k_25 : sw = 25
    · refine lv_tableIn (off := 1100) (tgt := 1133) hx hb dL_law_33 (by rw [k_25]; decide) (by rw [k_25]; decide) (by rw [k_25]; decide +kernel) (by decide) ?_
      exact law_25 l C0 hK hN xa ma hAe ix hin hG hS hl hk
    by_cases k_26 : sw = 26
    · refine lv_tableIn (off := 1133) (tgt := 1166) hx hb dL_law_33 (by rw [k_26]; decide) (by rw [k_26]; decide) (by rw [k_26]; decide +kernel) (by decide) ?_
      exact law_26 l C0 hK hN xa ma hAe ix hin hG hS hl hk
    by_cases k_27 : sw = 27
    · refine lv_tableIn (off := 1156) (tgt := 1189) hx hb dL_law_33 (by rw [k_27]; decide) (by rw [k_27]; decide) (by rw [k_27]; decide +kernel) (by decide) ?_
      exact law_27 l C0 hK hN xa ma hAe ix hin hG hS hl hk
    by_cases k_28 : sw = 28
    · refine lv_tableIn (off := 1215) (tgt := 1248) hx hb dL_law_33 (by rw [k_28]; decide) (by rw [k_28]; decide) (by rw [k_28]; decide +kernel) (by decide) ?_
      exact law_28 l C0 hK hN xa ma hAe ix hin hG hS hl hk
    by_cases k_29 : sw = 29
    · refine lv_tableIn (off := 1238) (tgt := 1271) hx hb dL_law_33 (by rw [k_29]; decide) (by rw [k_29]; decide) (by rw [k_29]; decide +kernel) (by decide) ?_
      exact law_29 l C0 hK hN xa ma hAe ix hin hG hS hl hk
    by_cases k_30 : sw = 30
    · refine lv_tableIn (off := 1271) (tgt := 1304) hx hb dL_law_33 (by rw [k_30]; decide) (by rw [k_30]; decide) (by rw [k_30]; decide +kernel) (by decide) ?_
      exact law_30 l C0 hK hN xa ma hAe ix hin hG hS hl hk
    by_cases k_31 : sw = 31
    · refine lv_tableIn (off := 1294) (tgt := 1327) hx hb dL_law_33 (by rw [k_31]; decide) (by rw [k_31]; decide) (by rw [k_31]; decide +kernel) (by decide) ?_
      exact law_31 l C0 hK hN xa ma hAe ix hin hG hS hl hk
    by_cases k_32 : sw = 32
    · refine lv_tableIn (off := 1307) (tgt := 1340) hx hb dL_law_33 (by rw [k_32]; decide) (by rw [k_32]; decide) (by rw [k_32]; decide +kernel) (by decide) ?_
      exact law_32 l C0 hK hN xa ma hAe ix hin hG hS hl hk
    refine lv_tableOut (tgt := 1363) hx hb dL_law_33 (gp_sw0_32 k_0 k_1 k_2 k_3 k_4 k_5 k_6 k_7 k_8 k_9 k_10 k_11 k_12 k_13 k_14 k_15 k_16 k_17 k_18 k_19 k_20 k_21 k_22 k_23 k_24 k_25 k_26 k_27 k_28 k_29 k_30 k_31 k_32) (by decide) ?_
    exact hk H locs ls hG hS hl
