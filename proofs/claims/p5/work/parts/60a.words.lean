theorem gp_gcons {big a : List Cond} {c : Cond} (hc : c ∈ big) (hg : goodWord c = true) (ha : GoodIn big a) : GoodIn big (c :: a) := fun w h => (List.mem_cons.mp h).elim (fun e => e ▸ ⟨hc, good_of_word hg⟩) (ha w)
theorem gp_gnil {big : List Cond} : GoodIn big [] := fun w h => absurd h List.not_mem_nil
theorem gp_gk {big a : List Cond} {c : Cond} (hc : c ∈ big ∧ goodWord c = true) (ha : GoodIn big a) : GoodIn big (c :: a) := fun w h => (List.mem_cons.mp h).elim (fun e => e ▸ ⟨hc.1, good_of_word hc.2⟩) (ha w)
theorem gp_t1 {w : Cond} (h : w ∈ tables_1_1) : w ∈ lw_tbl := List.mem_append_right (k2_sels lw_privs) (show w ∈ tables_1 from List.mem_append_left _ h)
theorem gp_t2 {w : Cond} (h : w ∈ tables_1_2) : w ∈ lw_tbl := List.mem_append_right (k2_sels lw_privs) (show w ∈ tables_1 from List.mem_append_right tables_1_1 (List.mem_append_left _ h))
theorem gp_t3 {w : Cond} (h : w ∈ tables_1_3) : w ∈ lw_tbl := List.mem_append_right (k2_sels lw_privs) (show w ∈ tables_1 from List.mem_append_right tables_1_1 (List.mem_append_right tables_1_2 (List.mem_append_left _ h)))
theorem gp_t4 {w : Cond} (h : w ∈ tables_1_4) : w ∈ lw_tbl := List.mem_append_right (k2_sels lw_privs) (show w ∈ tables_1 from List.mem_append_right tables_1_1 (List.mem_append_right tables_1_2 (List.mem_append_right tables_1_3 (List.mem_append_left _ h))))
theorem gp_t5 {w : Cond} (h : w ∈ tables_1_5) : w ∈ lw_tbl := List.mem_append_right (k2_sels lw_privs) (show w ∈ tables_1 from List.mem_append_right tables_1_1 (List.mem_append_right tables_1_2 (List.mem_append_right tables_1_3 (List.mem_append_right tables_1_4 (List.mem_append_left _ h)))))
theorem gp_t6 {w : Cond} (h : w ∈ tables_1_6) : w ∈ lw_tbl := List.mem_append_right (k2_sels lw_privs) (show w ∈ tables_1 from List.mem_append_right tables_1_1 (List.mem_append_right tables_1_2 (List.mem_append_right tables_1_3 (List.mem_append_right tables_1_4 (List.mem_append_right tables_1_5 (List.mem_append_left _ h))))))
theorem gp_t7 {w : Cond} (h : w ∈ tables_1_7) : w ∈ lw_tbl := List.mem_append_right (k2_sels lw_privs) (show w ∈ tables_1 from List.mem_append_right tables_1_1 (List.mem_append_right tables_1_2 (List.mem_append_right tables_1_3 (List.mem_append_right tables_1_4 (List.mem_append_right tables_1_5 (List.mem_append_right tables_1_6 (List.mem_append_left _ h)))))))
theorem gp_t8 {w : Cond} (h : w ∈ tables_1_8) : w ∈ lw_tbl := List.mem_append_right (k2_sels lw_privs) (show w ∈ tables_1 from List.mem_append_right tables_1_1 (List.mem_append_right tables_1_2 (List.mem_append_right tables_1_3 (List.mem_append_right tables_1_4 (List.mem_append_right tables_1_5 (List.mem_append_right tables_1_6 (List.mem_append_right tables_1_7 (h))))))))
theorem tw_0 : (.fieldLink RX11 77 "GhostPane$Tape" "length" "I" : Cond) ∈ lw_tbl ∧ goodWord (.fieldLink RX11 77 "GhostPane$Tape" "length" "I") = true := ⟨gp_t1 (List.mem_of_getElem? (i := 34) rfl), rfl⟩
theorem tw_1 : (.selects RX9 yX9_append yX9_append : Cond) ∈ lw_tbl ∧ goodWord (.selects RX9 yX9_append yX9_append) = true := ⟨gp_t3 (List.mem_of_getElem? (i := 18) rfl), rfl⟩
theorem tw_2 : (.instanceMethod yX9_append : Cond) ∈ lw_tbl ∧ goodWord (.instanceMethod yX9_append) = true := ⟨gp_t3 (List.mem_of_getElem? (i := 17) rfl), rfl⟩
theorem tw_3 : (.methodLink RX11 73 yX9_append : Cond) ∈ lw_tbl ∧ goodWord (.methodLink RX11 73 yX9_append) = true := ⟨gp_t3 (List.mem_of_getElem? (i := 16) rfl), rfl⟩
theorem tw_4 : (.fieldLink RX9 18 "GhostPane$Tape" "bytes" "[B" : Cond) ∈ lw_tbl ∧ goodWord (.fieldLink RX9 18 "GhostPane$Tape" "bytes" "[B") = true := ⟨gp_t1 (List.mem_of_getElem? (i := 46) rfl), rfl⟩
theorem tw_5 : (.code yX9_append cX9_append 3 none : Cond) ∈ lw_tbl ∧ goodWord (.code yX9_append cX9_append 3 none) = true := ⟨gp_t3 (List.mem_of_getElem? (i := 19) rfl), rfl⟩
theorem tw_6 : (.initialized RX9 : Cond) ∈ lw_tbl ∧ goodWord (.initialized RX9) = true := ⟨gp_t1 (List.mem_of_getElem? (i := 2) rfl), rfl⟩
theorem tw_7 : (.selects RX9 yX9_hasRoom yX9_hasRoom : Cond) ∈ lw_tbl ∧ goodWord (.selects RX9 yX9_hasRoom yX9_hasRoom) = true := ⟨gp_t3 (List.mem_of_getElem? (i := 14) rfl), rfl⟩
theorem tw_8 : (.instanceMethod yX9_hasRoom : Cond) ∈ lw_tbl ∧ goodWord (.instanceMethod yX9_hasRoom) = true := ⟨gp_t3 (List.mem_of_getElem? (i := 13) rfl), rfl⟩
theorem tw_9 : (.methodLink RX11 69 yX9_hasRoom : Cond) ∈ lw_tbl ∧ goodWord (.methodLink RX11 69 yX9_hasRoom) = true := ⟨gp_t3 (List.mem_of_getElem? (i := 12) rfl), rfl⟩
theorem tw_10 : (.fieldLink RX9 22 "GhostPane$Tape" "length" "I" : Cond) ∈ lw_tbl ∧ goodWord (.fieldLink RX9 22 "GhostPane$Tape" "length" "I") = true := ⟨gp_t1 (List.mem_of_getElem? (i := 33) rfl), rfl⟩
theorem tw_11 : (.code yX9_hasRoom cX9_hasRoom 1 (some .boolean) : Cond) ∈ lw_tbl ∧ goodWord (.code yX9_hasRoom cX9_hasRoom 1 (some .boolean)) = true := ⟨gp_t3 (List.mem_of_getElem? (i := 15) rfl), rfl⟩
theorem tw_12 : (.fieldLink RX11 10 "GhostPane" "tape" "LGhostPane$Tape;" : Cond) ∈ lw_tbl ∧ goodWord (.fieldLink RX11 10 "GhostPane" "tape" "LGhostPane$Tape;") = true := ⟨gp_t2 (List.mem_of_getElem? (i := 223) rfl), rfl⟩
theorem tw_13 : (.code yX11_feed cX11_feed 6 (some .int) : Cond) ∈ lw_tbl ∧ goodWord (.code yX11_feed cX11_feed 6 (some .int)) = true := ⟨gp_t3 (List.mem_of_getElem? (i := 11) rfl), rfl⟩
theorem tw_14 : (.initialized RX11 : Cond) ∈ lw_tbl ∧ goodWord (.initialized RX11) = true := ⟨gp_t1 (List.mem_of_getElem? (i := 1) rfl), rfl⟩
theorem tw_15 : (.selects RX11 yX11_feed yX11_feed : Cond) ∈ lw_tbl ∧ goodWord (.selects RX11 yX11_feed yX11_feed) = true := ⟨gp_t3 (List.mem_of_getElem? (i := 10) rfl), rfl⟩
theorem tw_16 : (.instanceMethod yX11_feed : Cond) ∈ lw_tbl ∧ goodWord (.instanceMethod yX11_feed) = true := ⟨gp_t3 (List.mem_of_getElem? (i := 9) rfl), rfl⟩
theorem tw_17 : (.methodLink RL 13 yX11_feed : Cond) ∈ lw_tbl ∧ goodWord (.methodLink RL 13 yX11_feed) = true := ⟨gp_t3 (List.mem_of_getElem? (i := 8) rfl), rfl⟩
theorem tw_18 : (.fieldLink RX12 189 "GhostPaneModel" "tape" "[I" : Cond) ∈ lw_tbl ∧ goodWord (.fieldLink RX12 189 "GhostPaneModel" "tape" "[I") = true := ⟨gp_t6 (List.mem_of_getElem? (i := 156) rfl), rfl⟩
theorem tw_19 : (.fieldLink RX12 186 "GhostPaneModel" "taped" "I" : Cond) ∈ lw_tbl ∧ goodWord (.fieldLink RX12 186 "GhostPaneModel" "taped" "I") = true := ⟨gp_t6 (List.mem_of_getElem? (i := 157) rfl), rfl⟩
theorem tw_20 : (.code yX12_feed cX12_feed 8 (some .int) : Cond) ∈ lw_tbl ∧ goodWord (.code yX12_feed cX12_feed 8 (some .int)) = true := ⟨gp_t6 (List.mem_of_getElem? (i := 113) rfl), rfl⟩
theorem tw_21 : (.initialized RX12 : Cond) ∈ lw_tbl ∧ goodWord (.initialized RX12) = true := ⟨gp_t1 (List.mem_of_getElem? (i := 13) rfl), rfl⟩
theorem tw_22 : (.selects RX12 yX12_feed yX12_feed : Cond) ∈ lw_tbl ∧ goodWord (.selects RX12 yX12_feed yX12_feed) = true := ⟨gp_t6 (List.mem_of_getElem? (i := 112) rfl), rfl⟩
theorem tw_23 : (.instanceMethod yX12_feed : Cond) ∈ lw_tbl ∧ goodWord (.instanceMethod yX12_feed) = true := ⟨gp_t6 (List.mem_of_getElem? (i := 111) rfl), rfl⟩
theorem tw_24 : (.methodLink RL 17 yX12_feed : Cond) ∈ lw_tbl ∧ goodWord (.methodLink RL 17 yX12_feed) = true := ⟨gp_t6 (List.mem_of_getElem? (i := 110) rfl), rfl⟩
theorem tw_25 : (.code yX11_end cX11_end 2 (some .boolean) : Cond) ∈ lw_tbl ∧ goodWord (.code yX11_end cX11_end 2 (some .boolean)) = true := ⟨gp_t3 (List.mem_of_getElem? (i := 23) rfl), rfl⟩
theorem tw_26 : (.selects RX11 yX11_end yX11_end : Cond) ∈ lw_tbl ∧ goodWord (.selects RX11 yX11_end yX11_end) = true := ⟨gp_t3 (List.mem_of_getElem? (i := 22) rfl), rfl⟩
theorem tw_27 : (.instanceMethod yX11_end : Cond) ∈ lw_tbl ∧ goodWord (.instanceMethod yX11_end) = true := ⟨gp_t3 (List.mem_of_getElem? (i := 21) rfl), rfl⟩
theorem tw_28 : (.methodLink RL 18 yX11_end : Cond) ∈ lw_tbl ∧ goodWord (.methodLink RL 18 yX11_end) = true := ⟨gp_t3 (List.mem_of_getElem? (i := 20) rfl), rfl⟩
theorem tw_29 : (.code yX12_end cX12_end 2 (some .boolean) : Cond) ∈ lw_tbl ∧ goodWord (.code yX12_end cX12_end 2 (some .boolean)) = true := ⟨gp_t6 (List.mem_of_getElem? (i := 117) rfl), rfl⟩
theorem tw_30 : (.selects RX12 yX12_end yX12_end : Cond) ∈ lw_tbl ∧ goodWord (.selects RX12 yX12_end yX12_end) = true := ⟨gp_t6 (List.mem_of_getElem? (i := 116) rfl), rfl⟩
theorem tw_31 : (.instanceMethod yX12_end : Cond) ∈ lw_tbl ∧ goodWord (.instanceMethod yX12_end) = true := ⟨gp_t6 (List.mem_of_getElem? (i := 115) rfl), rfl⟩
theorem tw_32 : (.methodLink RL 22 yX12_end : Cond) ∈ lw_tbl ∧ goodWord (.methodLink RL 22 yX12_end) = true := ⟨gp_t6 (List.mem_of_getElem? (i := 114) rfl), rfl⟩
theorem tw_33 : (.fieldLink RX11 94 "GhostPane$Room" "by" "I" : Cond) ∈ lw_tbl ∧ goodWord (.fieldLink RX11 94 "GhostPane$Room" "by" "I") = true := ⟨gp_t1 (List.mem_of_getElem? (i := 207) rfl), rfl⟩
theorem tw_34 : (.fieldLink RX11 91 "GhostPane$Room" "bx" "I" : Cond) ∈ lw_tbl ∧ goodWord (.fieldLink RX11 91 "GhostPane$Room" "bx" "I") = true := ⟨gp_t1 (List.mem_of_getElem? (i := 203) rfl), rfl⟩
theorem tw_35 : (.fieldLink RX11 88 "GhostPane$Room" "ay" "I" : Cond) ∈ lw_tbl ∧ goodWord (.fieldLink RX11 88 "GhostPane$Room" "ay" "I") = true := ⟨gp_t1 (List.mem_of_getElem? (i := 199) rfl), rfl⟩
theorem tw_36 : (.fieldLink RX11 85 "GhostPane$Room" "ax" "I" : Cond) ∈ lw_tbl ∧ goodWord (.fieldLink RX11 85 "GhostPane$Room" "ax" "I") = true := ⟨gp_t1 (List.mem_of_getElem? (i := 195) rfl), rfl⟩
theorem tw_37 : (.fieldLink RX11 35 "GhostPane" "room" "LGhostPane$Room;" : Cond) ∈ lw_tbl ∧ goodWord (.fieldLink RX11 35 "GhostPane" "room" "LGhostPane$Room;") = true := ⟨gp_t2 (List.mem_of_getElem? (i := 226) rfl), rfl⟩
theorem tw_38 : (.static yX11_isStretch : Cond) ∈ lw_tbl ∧ goodWord (.static yX11_isStretch) = true := ⟨gp_t3 (List.mem_of_getElem? (i := 29) rfl), rfl⟩
theorem tw_39 : (.methodLink RX11 81 yX11_isStretch : Cond) ∈ lw_tbl ∧ goodWord (.methodLink RX11 81 yX11_isStretch) = true := ⟨gp_t3 (List.mem_of_getElem? (i := 28) rfl), rfl⟩
theorem tw_40 : (.static yX11_isPlace : Cond) ∈ lw_tbl ∧ goodWord (.static yX11_isPlace) = true := ⟨gp_t3 (List.mem_of_getElem? (i := 32) rfl), rfl⟩
theorem tw_41 : (.methodLink RX11 122 yX11_isPlace : Cond) ∈ lw_tbl ∧ goodWord (.methodLink RX11 122 yX11_isPlace) = true := ⟨gp_t3 (List.mem_of_getElem? (i := 31) rfl), rfl⟩
theorem tw_42 : (.static yX11_within : Cond) ∈ lw_tbl ∧ goodWord (.static yX11_within) = true := ⟨gp_t3 (List.mem_of_getElem? (i := 35) rfl), rfl⟩
theorem tw_43 : (.methodLink RX11 109 yX11_within : Cond) ∈ lw_tbl ∧ goodWord (.methodLink RX11 109 yX11_within) = true := ⟨gp_t3 (List.mem_of_getElem? (i := 34) rfl), rfl⟩
theorem tw_44 : (.code yX11_within cX11_within 3 (some .boolean) : Cond) ∈ lw_tbl ∧ goodWord (.code yX11_within cX11_within 3 (some .boolean)) = true := ⟨gp_t3 (List.mem_of_getElem? (i := 36) rfl), rfl⟩
theorem tw_45 : (.code yX11_isPlace cX11_isPlace 2 (some .boolean) : Cond) ∈ lw_tbl ∧ goodWord (.code yX11_isPlace cX11_isPlace 2 (some .boolean)) = true := ⟨gp_t3 (List.mem_of_getElem? (i := 33) rfl), rfl⟩
theorem tw_46 : (.code yX11_isStretch cX11_isStretch 4 (some .boolean) : Cond) ∈ lw_tbl ∧ goodWord (.code yX11_isStretch cX11_isStretch 4 (some .boolean)) = true := ⟨gp_t3 (List.mem_of_getElem? (i := 30) rfl), rfl⟩
theorem tw_47 : (.code yX11_pane cX11_pane 5 (some .boolean) : Cond) ∈ lw_tbl ∧ goodWord (.code yX11_pane cX11_pane 5 (some .boolean)) = true := ⟨gp_t3 (List.mem_of_getElem? (i := 27) rfl), rfl⟩
theorem tw_48 : (.selects RX11 yX11_pane yX11_pane : Cond) ∈ lw_tbl ∧ goodWord (.selects RX11 yX11_pane yX11_pane) = true := ⟨gp_t3 (List.mem_of_getElem? (i := 26) rfl), rfl⟩
theorem tw_49 : (.instanceMethod yX11_pane : Cond) ∈ lw_tbl ∧ goodWord (.instanceMethod yX11_pane) = true := ⟨gp_t3 (List.mem_of_getElem? (i := 25) rfl), rfl⟩
theorem tw_50 : (.methodLink RL 23 yX11_pane : Cond) ∈ lw_tbl ∧ goodWord (.methodLink RL 23 yX11_pane) = true := ⟨gp_t3 (List.mem_of_getElem? (i := 24) rfl), rfl⟩
theorem tw_51 : (.fieldLink RX12 25 "GhostPaneModel" "by" "I" : Cond) ∈ lw_tbl ∧ goodWord (.fieldLink RX12 25 "GhostPaneModel" "by" "I") = true := ⟨gp_t6 (List.mem_of_getElem? (i := 126) rfl), rfl⟩
theorem tw_52 : (.fieldLink RX12 22 "GhostPaneModel" "bx" "I" : Cond) ∈ lw_tbl ∧ goodWord (.fieldLink RX12 22 "GhostPaneModel" "bx" "I") = true := ⟨gp_t6 (List.mem_of_getElem? (i := 125) rfl), rfl⟩
theorem tw_53 : (.fieldLink RX12 19 "GhostPaneModel" "ay" "I" : Cond) ∈ lw_tbl ∧ goodWord (.fieldLink RX12 19 "GhostPaneModel" "ay" "I") = true := ⟨gp_t6 (List.mem_of_getElem? (i := 124) rfl), rfl⟩
theorem tw_54 : (.fieldLink RX12 15 "GhostPaneModel" "ax" "I" : Cond) ∈ lw_tbl ∧ goodWord (.fieldLink RX12 15 "GhostPaneModel" "ax" "I") = true := ⟨gp_t6 (List.mem_of_getElem? (i := 123) rfl), rfl⟩
theorem tw_55 : (.static yX12_areTwo : Cond) ∈ lw_tbl ∧ goodWord (.static yX12_areTwo) = true := ⟨gp_t5 (List.mem_of_getElem? (i := 222) rfl), rfl⟩
theorem tw_56 : (.methodLink RX12 11 yX12_areTwo : Cond) ∈ lw_tbl ∧ goodWord (.methodLink RX12 11 yX12_areTwo) = true := ⟨gp_t5 (List.mem_of_getElem? (i := 221) rfl), rfl⟩
theorem tw_57 : (.static yX12_isPlace : Cond) ∈ lw_tbl ∧ goodWord (.static yX12_isPlace) = true := ⟨gp_t5 (List.mem_of_getElem? (i := 225) rfl), rfl⟩
theorem tw_58 : (.methodLink RX12 7 yX12_isPlace : Cond) ∈ lw_tbl ∧ goodWord (.methodLink RX12 7 yX12_isPlace) = true := ⟨gp_t5 (List.mem_of_getElem? (i := 224) rfl), rfl⟩
theorem tw_59 : (.static yX12_isIn : Cond) ∈ lw_tbl ∧ goodWord (.static yX12_isIn) = true := ⟨gp_t5 (List.mem_of_getElem? (i := 228) rfl), rfl⟩
theorem tw_60 : (.methodLink RX12 3 yX12_isIn : Cond) ∈ lw_tbl ∧ goodWord (.methodLink RX12 3 yX12_isIn) = true := ⟨gp_t5 (List.mem_of_getElem? (i := 227) rfl), rfl⟩
theorem tw_61 : (.code yX12_isIn cX12_isIn 3 (some .boolean) : Cond) ∈ lw_tbl ∧ goodWord (.code yX12_isIn cX12_isIn 3 (some .boolean)) = true := ⟨gp_t5 (List.mem_of_getElem? (i := 229) rfl), rfl⟩
theorem tw_62 : (.code yX12_isPlace cX12_isPlace 2 (some .boolean) : Cond) ∈ lw_tbl ∧ goodWord (.code yX12_isPlace cX12_isPlace 2 (some .boolean)) = true := ⟨gp_t5 (List.mem_of_getElem? (i := 226) rfl), rfl⟩
theorem tw_63 : (.code yX12_areTwo cX12_areTwo 4 (some .boolean) : Cond) ∈ lw_tbl ∧ goodWord (.code yX12_areTwo cX12_areTwo 4 (some .boolean)) = true := ⟨gp_t5 (List.mem_of_getElem? (i := 223) rfl), rfl⟩
theorem tw_64 : (.code yX12_pane cX12_pane 5 (some .boolean) : Cond) ∈ lw_tbl ∧ goodWord (.code yX12_pane cX12_pane 5 (some .boolean)) = true := ⟨gp_t5 (List.mem_of_getElem? (i := 220) rfl), rfl⟩
theorem tw_65 : (.selects RX12 yX12_pane yX12_pane : Cond) ∈ lw_tbl ∧ goodWord (.selects RX12 yX12_pane yX12_pane) = true := ⟨gp_t5 (List.mem_of_getElem? (i := 219) rfl), rfl⟩
theorem tw_66 : (.instanceMethod yX12_pane : Cond) ∈ lw_tbl ∧ goodWord (.instanceMethod yX12_pane) = true := ⟨gp_t5 (List.mem_of_getElem? (i := 218) rfl), rfl⟩
theorem tw_67 : (.methodLink RL 27 yX12_pane : Cond) ∈ lw_tbl ∧ goodWord (.methodLink RL 27 yX12_pane) = true := ⟨gp_t5 (List.mem_of_getElem? (i := 217) rfl), rfl⟩
theorem tw_68 : (.fieldLink RX11 106 "GhostPane$Room" "dy" "I" : Cond) ∈ lw_tbl ∧ goodWord (.fieldLink RX11 106 "GhostPane$Room" "dy" "I") = true := ⟨gp_t1 (List.mem_of_getElem? (i := 219) rfl), rfl⟩
theorem tw_69 : (.fieldLink RX11 103 "GhostPane$Room" "dx" "I" : Cond) ∈ lw_tbl ∧ goodWord (.fieldLink RX11 103 "GhostPane$Room" "dx" "I") = true := ⟨gp_t1 (List.mem_of_getElem? (i := 216) rfl), rfl⟩
theorem tw_70 : (.fieldLink RX11 100 "GhostPane$Room" "cy" "I" : Cond) ∈ lw_tbl ∧ goodWord (.fieldLink RX11 100 "GhostPane$Room" "cy" "I") = true := ⟨gp_t1 (List.mem_of_getElem? (i := 213) rfl), rfl⟩
theorem tw_71 : (.fieldLink RX11 97 "GhostPane$Room" "cx" "I" : Cond) ∈ lw_tbl ∧ goodWord (.fieldLink RX11 97 "GhostPane$Room" "cx" "I") = true := ⟨gp_t1 (List.mem_of_getElem? (i := 210) rfl), rfl⟩
theorem tw_72 : (.code yX11_board cX11_board 5 (some .boolean) : Cond) ∈ lw_tbl ∧ goodWord (.code yX11_board cX11_board 5 (some .boolean)) = true := ⟨gp_t3 (List.mem_of_getElem? (i := 40) rfl), rfl⟩
theorem tw_73 : (.selects RX11 yX11_board yX11_board : Cond) ∈ lw_tbl ∧ goodWord (.selects RX11 yX11_board yX11_board) = true := ⟨gp_t3 (List.mem_of_getElem? (i := 39) rfl), rfl⟩
theorem tw_74 : (.instanceMethod yX11_board : Cond) ∈ lw_tbl ∧ goodWord (.instanceMethod yX11_board) = true := ⟨gp_t3 (List.mem_of_getElem? (i := 38) rfl), rfl⟩
theorem tw_75 : (.methodLink RL 28 yX11_board : Cond) ∈ lw_tbl ∧ goodWord (.methodLink RL 28 yX11_board) = true := ⟨gp_t3 (List.mem_of_getElem? (i := 37) rfl), rfl⟩
theorem tw_76 : (.fieldLink RX12 37 "GhostPaneModel" "dy" "I" : Cond) ∈ lw_tbl ∧ goodWord (.fieldLink RX12 37 "GhostPaneModel" "dy" "I") = true := ⟨gp_t6 (List.mem_of_getElem? (i := 130) rfl), rfl⟩
theorem tw_77 : (.fieldLink RX12 34 "GhostPaneModel" "dx" "I" : Cond) ∈ lw_tbl ∧ goodWord (.fieldLink RX12 34 "GhostPaneModel" "dx" "I") = true := ⟨gp_t6 (List.mem_of_getElem? (i := 129) rfl), rfl⟩
theorem tw_78 : (.fieldLink RX12 31 "GhostPaneModel" "cy" "I" : Cond) ∈ lw_tbl ∧ goodWord (.fieldLink RX12 31 "GhostPaneModel" "cy" "I") = true := ⟨gp_t6 (List.mem_of_getElem? (i := 128) rfl), rfl⟩
theorem tw_79 : (.fieldLink RX12 28 "GhostPaneModel" "cx" "I" : Cond) ∈ lw_tbl ∧ goodWord (.fieldLink RX12 28 "GhostPaneModel" "cx" "I") = true := ⟨gp_t6 (List.mem_of_getElem? (i := 127) rfl), rfl⟩
theorem tw_80 : (.code yX12_board cX12_board 5 (some .boolean) : Cond) ∈ lw_tbl ∧ goodWord (.code yX12_board cX12_board 5 (some .boolean)) = true := ⟨gp_t5 (List.mem_of_getElem? (i := 233) rfl), rfl⟩
theorem tw_81 : (.selects RX12 yX12_board yX12_board : Cond) ∈ lw_tbl ∧ goodWord (.selects RX12 yX12_board yX12_board) = true := ⟨gp_t5 (List.mem_of_getElem? (i := 232) rfl), rfl⟩
theorem tw_82 : (.instanceMethod yX12_board : Cond) ∈ lw_tbl ∧ goodWord (.instanceMethod yX12_board) = true := ⟨gp_t5 (List.mem_of_getElem? (i := 231) rfl), rfl⟩
theorem tw_83 : (.methodLink RL 31 yX12_board : Cond) ∈ lw_tbl ∧ goodWord (.methodLink RL 31 yX12_board) = true := ⟨gp_t5 (List.mem_of_getElem? (i := 230) rfl), rfl⟩
theorem tw_84 : (.fieldLink RX11 119 "GhostPane$Room" "deep" "I" : Cond) ∈ lw_tbl ∧ goodWord (.fieldLink RX11 119 "GhostPane$Room" "deep" "I") = true := ⟨gp_t1 (List.mem_of_getElem? (i := 230) rfl), rfl⟩
theorem tw_85 : (.fieldLink RX11 116 "GhostPane$Room" "hand" "I" : Cond) ∈ lw_tbl ∧ goodWord (.fieldLink RX11 116 "GhostPane$Room" "hand" "I") = true := ⟨gp_t1 (List.mem_of_getElem? (i := 225) rfl), rfl⟩
theorem tw_86 : (.fieldLink RX11 113 "GhostPane$Room" "floor" "I" : Cond) ∈ lw_tbl ∧ goodWord (.fieldLink RX11 113 "GhostPane$Room" "floor" "I") = true := ⟨gp_t1 (List.mem_of_getElem? (i := 222) rfl), rfl⟩
theorem tw_87 : (.code yX11_heights cX11_heights 4 (some .boolean) : Cond) ∈ lw_tbl ∧ goodWord (.code yX11_heights cX11_heights 4 (some .boolean)) = true := ⟨gp_t3 (List.mem_of_getElem? (i := 44) rfl), rfl⟩
theorem tw_88 : (.selects RX11 yX11_heights yX11_heights : Cond) ∈ lw_tbl ∧ goodWord (.selects RX11 yX11_heights yX11_heights) = true := ⟨gp_t3 (List.mem_of_getElem? (i := 43) rfl), rfl⟩
theorem tw_89 : (.instanceMethod yX11_heights : Cond) ∈ lw_tbl ∧ goodWord (.instanceMethod yX11_heights) = true := ⟨gp_t3 (List.mem_of_getElem? (i := 42) rfl), rfl⟩
theorem tw_90 : (.methodLink RL 32 yX11_heights : Cond) ∈ lw_tbl ∧ goodWord (.methodLink RL 32 yX11_heights) = true := ⟨gp_t3 (List.mem_of_getElem? (i := 41) rfl), rfl⟩
theorem tw_91 : (.fieldLink RX12 46 "GhostPaneModel" "deep" "I" : Cond) ∈ lw_tbl ∧ goodWord (.fieldLink RX12 46 "GhostPaneModel" "deep" "I") = true := ⟨gp_t6 (List.mem_of_getElem? (i := 133) rfl), rfl⟩
theorem tw_92 : (.fieldLink RX12 43 "GhostPaneModel" "hand" "I" : Cond) ∈ lw_tbl ∧ goodWord (.fieldLink RX12 43 "GhostPaneModel" "hand" "I") = true := ⟨gp_t6 (List.mem_of_getElem? (i := 132) rfl), rfl⟩
theorem tw_93 : (.fieldLink RX12 40 "GhostPaneModel" "floor" "I" : Cond) ∈ lw_tbl ∧ goodWord (.fieldLink RX12 40 "GhostPaneModel" "floor" "I") = true := ⟨gp_t6 (List.mem_of_getElem? (i := 131) rfl), rfl⟩
theorem tw_94 : (.code yX12_heights cX12_heights 4 (some .boolean) : Cond) ∈ lw_tbl ∧ goodWord (.code yX12_heights cX12_heights 4 (some .boolean)) = true := ⟨gp_t5 (List.mem_of_getElem? (i := 237) rfl), rfl⟩
theorem tw_95 : (.selects RX12 yX12_heights yX12_heights : Cond) ∈ lw_tbl ∧ goodWord (.selects RX12 yX12_heights yX12_heights) = true := ⟨gp_t5 (List.mem_of_getElem? (i := 236) rfl), rfl⟩
theorem tw_96 : (.instanceMethod yX12_heights : Cond) ∈ lw_tbl ∧ goodWord (.instanceMethod yX12_heights) = true := ⟨gp_t5 (List.mem_of_getElem? (i := 235) rfl), rfl⟩
theorem tw_97 : (.methodLink RL 36 yX12_heights : Cond) ∈ lw_tbl ∧ goodWord (.methodLink RL 36 yX12_heights) = true := ⟨gp_t5 (List.mem_of_getElem? (i := 234) rfl), rfl⟩
theorem tw_98 : (.fieldLink RX11 134 "GhostPane$Room" "eyeY" "[I" : Cond) ∈ lw_tbl ∧ goodWord (.fieldLink RX11 134 "GhostPane$Room" "eyeY" "[I") = true := ⟨gp_t1 (List.mem_of_getElem? (i := 239) rfl), rfl⟩
theorem tw_99 : (.fieldLink RX11 130 "GhostPane$Room" "eyeX" "[I" : Cond) ∈ lw_tbl ∧ goodWord (.fieldLink RX11 130 "GhostPane$Room" "eyeX" "[I") = true := ⟨gp_t1 (List.mem_of_getElem? (i := 236) rfl), rfl⟩
theorem tw_100 : (.fieldLink RX11 126 "GhostPane$Room" "seatThere" "[Z" : Cond) ∈ lw_tbl ∧ goodWord (.fieldLink RX11 126 "GhostPane$Room" "seatThere" "[Z") = true := ⟨gp_t1 (List.mem_of_getElem? (i := 233) rfl), rfl⟩
theorem tw_101 : (.code yX11_seat cX11_seat 4 (some .boolean) : Cond) ∈ lw_tbl ∧ goodWord (.code yX11_seat cX11_seat 4 (some .boolean)) = true := ⟨gp_t3 (List.mem_of_getElem? (i := 48) rfl), rfl⟩
theorem tw_102 : (.selects RX11 yX11_seat yX11_seat : Cond) ∈ lw_tbl ∧ goodWord (.selects RX11 yX11_seat yX11_seat) = true := ⟨gp_t3 (List.mem_of_getElem? (i := 47) rfl), rfl⟩
theorem tw_103 : (.instanceMethod yX11_seat : Cond) ∈ lw_tbl ∧ goodWord (.instanceMethod yX11_seat) = true := ⟨gp_t3 (List.mem_of_getElem? (i := 46) rfl), rfl⟩
theorem tw_104 : (.methodLink RL 37 yX11_seat : Cond) ∈ lw_tbl ∧ goodWord (.methodLink RL 37 yX11_seat) = true := ⟨gp_t3 (List.mem_of_getElem? (i := 45) rfl), rfl⟩
theorem tw_105 : (.fieldLink RX12 57 "GhostPaneModel" "seatY" "[I" : Cond) ∈ lw_tbl ∧ goodWord (.fieldLink RX12 57 "GhostPaneModel" "seatY" "[I") = true := ⟨gp_t6 (List.mem_of_getElem? (i := 136) rfl), rfl⟩
theorem tw_106 : (.fieldLink RX12 53 "GhostPaneModel" "seatX" "[I" : Cond) ∈ lw_tbl ∧ goodWord (.fieldLink RX12 53 "GhostPaneModel" "seatX" "[I") = true := ⟨gp_t6 (List.mem_of_getElem? (i := 135) rfl), rfl⟩
theorem tw_107 : (.fieldLink RX12 49 "GhostPaneModel" "isSeat" "[Z" : Cond) ∈ lw_tbl ∧ goodWord (.fieldLink RX12 49 "GhostPaneModel" "isSeat" "[Z") = true := ⟨gp_t6 (List.mem_of_getElem? (i := 134) rfl), rfl⟩
theorem tw_108 : (.code yX12_seat cX12_seat 4 (some .boolean) : Cond) ∈ lw_tbl ∧ goodWord (.code yX12_seat cX12_seat 4 (some .boolean)) = true := ⟨gp_t6 (List.mem_of_getElem? (i := 1) rfl), rfl⟩
theorem tw_109 : (.selects RX12 yX12_seat yX12_seat : Cond) ∈ lw_tbl ∧ goodWord (.selects RX12 yX12_seat yX12_seat) = true := ⟨gp_t6 (List.mem_of_getElem? (i := 0) rfl), rfl⟩
theorem tw_110 : (.instanceMethod yX12_seat : Cond) ∈ lw_tbl ∧ goodWord (.instanceMethod yX12_seat) = true := ⟨gp_t5 (List.mem_of_getElem? (i := 239) rfl), rfl⟩
theorem tw_111 : (.methodLink RL 40 yX12_seat : Cond) ∈ lw_tbl ∧ goodWord (.methodLink RL 40 yX12_seat) = true := ⟨gp_t5 (List.mem_of_getElem? (i := 238) rfl), rfl⟩
theorem tw_112 : (.fieldLink RX11 144 "GhostPane$Room" "ofPit" "[Z" : Cond) ∈ lw_tbl ∧ goodWord (.fieldLink RX11 144 "GhostPane$Room" "ofPit" "[Z") = true := ⟨gp_t2 (List.mem_of_getElem? (i := 8) rfl), rfl⟩
theorem tw_113 : (.fieldLink RX11 140 "GhostPane$Room" "wallEnds" "[[I" : Cond) ∈ lw_tbl ∧ goodWord (.fieldLink RX11 140 "GhostPane$Room" "wallEnds" "[[I") = true := ⟨gp_t2 (List.mem_of_getElem? (i := 5) rfl), rfl⟩
theorem tw_114 : (.fieldLink RX11 137 "GhostPane$Room" "wallThere" "[Z" : Cond) ∈ lw_tbl ∧ goodWord (.fieldLink RX11 137 "GhostPane$Room" "wallThere" "[Z") = true := ⟨gp_t2 (List.mem_of_getElem? (i := 2) rfl), rfl⟩
theorem tw_115 : (.code yX11_wall cX11_wall 7 (some .boolean) : Cond) ∈ lw_tbl ∧ goodWord (.code yX11_wall cX11_wall 7 (some .boolean)) = true := ⟨gp_t3 (List.mem_of_getElem? (i := 52) rfl), rfl⟩
theorem tw_116 : (.selects RX11 yX11_wall yX11_wall : Cond) ∈ lw_tbl ∧ goodWord (.selects RX11 yX11_wall yX11_wall) = true := ⟨gp_t3 (List.mem_of_getElem? (i := 51) rfl), rfl⟩
theorem tw_117 : (.instanceMethod yX11_wall : Cond) ∈ lw_tbl ∧ goodWord (.instanceMethod yX11_wall) = true := ⟨gp_t3 (List.mem_of_getElem? (i := 50) rfl), rfl⟩
theorem tw_118 : (.methodLink RL 41 yX11_wall : Cond) ∈ lw_tbl ∧ goodWord (.methodLink RL 41 yX11_wall) = true := ⟨gp_t3 (List.mem_of_getElem? (i := 49) rfl), rfl⟩
theorem tw_119 : (.fieldLink RX12 75 "GhostPaneModel" "isPit" "[Z" : Cond) ∈ lw_tbl ∧ goodWord (.fieldLink RX12 75 "GhostPaneModel" "isPit" "[Z") = true := ⟨gp_t6 (List.mem_of_getElem? (i := 142) rfl), rfl⟩
theorem tw_120 : (.fieldLink RX12 72 "GhostPaneModel" "wallBy" "[I" : Cond) ∈ lw_tbl ∧ goodWord (.fieldLink RX12 72 "GhostPaneModel" "wallBy" "[I") = true := ⟨gp_t6 (List.mem_of_getElem? (i := 141) rfl), rfl⟩
theorem tw_121 : (.fieldLink RX12 69 "GhostPaneModel" "wallBx" "[I" : Cond) ∈ lw_tbl ∧ goodWord (.fieldLink RX12 69 "GhostPaneModel" "wallBx" "[I") = true := ⟨gp_t6 (List.mem_of_getElem? (i := 140) rfl), rfl⟩
theorem tw_122 : (.fieldLink RX12 66 "GhostPaneModel" "wallAy" "[I" : Cond) ∈ lw_tbl ∧ goodWord (.fieldLink RX12 66 "GhostPaneModel" "wallAy" "[I") = true := ⟨gp_t6 (List.mem_of_getElem? (i := 139) rfl), rfl⟩
theorem tw_123 : (.fieldLink RX12 63 "GhostPaneModel" "wallAx" "[I" : Cond) ∈ lw_tbl ∧ goodWord (.fieldLink RX12 63 "GhostPaneModel" "wallAx" "[I") = true := ⟨gp_t6 (List.mem_of_getElem? (i := 138) rfl), rfl⟩
theorem tw_124 : (.fieldLink RX12 60 "GhostPaneModel" "isWall" "[Z" : Cond) ∈ lw_tbl ∧ goodWord (.fieldLink RX12 60 "GhostPaneModel" "isWall" "[Z") = true := ⟨gp_t6 (List.mem_of_getElem? (i := 137) rfl), rfl⟩
theorem tw_125 : (.code yX12_wall cX12_wall 7 (some .boolean) : Cond) ∈ lw_tbl ∧ goodWord (.code yX12_wall cX12_wall 7 (some .boolean)) = true := ⟨gp_t6 (List.mem_of_getElem? (i := 5) rfl), rfl⟩
theorem tw_126 : (.selects RX12 yX12_wall yX12_wall : Cond) ∈ lw_tbl ∧ goodWord (.selects RX12 yX12_wall yX12_wall) = true := ⟨gp_t6 (List.mem_of_getElem? (i := 4) rfl), rfl⟩
theorem tw_127 : (.instanceMethod yX12_wall : Cond) ∈ lw_tbl ∧ goodWord (.instanceMethod yX12_wall) = true := ⟨gp_t6 (List.mem_of_getElem? (i := 3) rfl), rfl⟩
theorem tw_128 : (.methodLink RL 45 yX12_wall : Cond) ∈ lw_tbl ∧ goodWord (.methodLink RL 45 yX12_wall) = true := ⟨gp_t6 (List.mem_of_getElem? (i := 2) rfl), rfl⟩
theorem tw_129 : (.fieldLink RX11 150 "GhostPane$Room" "boxes" "[[I" : Cond) ∈ lw_tbl ∧ goodWord (.fieldLink RX11 150 "GhostPane$Room" "boxes" "[[I") = true := ⟨gp_t2 (List.mem_of_getElem? (i := 13) rfl), rfl⟩
theorem tw_130 : (.fieldLink RX11 147 "GhostPane$Room" "thingThere" "[Z" : Cond) ∈ lw_tbl ∧ goodWord (.fieldLink RX11 147 "GhostPane$Room" "thingThere" "[Z") = true := ⟨gp_t2 (List.mem_of_getElem? (i := 10) rfl), rfl⟩
theorem tw_131 : (.code yX11_thing cX11_thing 6 (some .boolean) : Cond) ∈ lw_tbl ∧ goodWord (.code yX11_thing cX11_thing 6 (some .boolean)) = true := ⟨gp_t3 (List.mem_of_getElem? (i := 56) rfl), rfl⟩
theorem tw_132 : (.selects RX11 yX11_thing yX11_thing : Cond) ∈ lw_tbl ∧ goodWord (.selects RX11 yX11_thing yX11_thing) = true := ⟨gp_t3 (List.mem_of_getElem? (i := 55) rfl), rfl⟩
theorem tw_133 : (.instanceMethod yX11_thing : Cond) ∈ lw_tbl ∧ goodWord (.instanceMethod yX11_thing) = true := ⟨gp_t3 (List.mem_of_getElem? (i := 54) rfl), rfl⟩
theorem tw_134 : (.methodLink RL 46 yX11_thing : Cond) ∈ lw_tbl ∧ goodWord (.methodLink RL 46 yX11_thing) = true := ⟨gp_t3 (List.mem_of_getElem? (i := 53) rfl), rfl⟩
theorem tw_135 : (.fieldLink RX12 90 "GhostPaneModel" "toY" "[I" : Cond) ∈ lw_tbl ∧ goodWord (.fieldLink RX12 90 "GhostPaneModel" "toY" "[I") = true := ⟨gp_t6 (List.mem_of_getElem? (i := 147) rfl), rfl⟩
theorem tw_136 : (.fieldLink RX12 87 "GhostPaneModel" "fromY" "[I" : Cond) ∈ lw_tbl ∧ goodWord (.fieldLink RX12 87 "GhostPaneModel" "fromY" "[I") = true := ⟨gp_t6 (List.mem_of_getElem? (i := 146) rfl), rfl⟩
theorem tw_137 : (.fieldLink RX12 84 "GhostPaneModel" "toX" "[I" : Cond) ∈ lw_tbl ∧ goodWord (.fieldLink RX12 84 "GhostPaneModel" "toX" "[I") = true := ⟨gp_t6 (List.mem_of_getElem? (i := 145) rfl), rfl⟩
theorem tw_138 : (.fieldLink RX12 81 "GhostPaneModel" "fromX" "[I" : Cond) ∈ lw_tbl ∧ goodWord (.fieldLink RX12 81 "GhostPaneModel" "fromX" "[I") = true := ⟨gp_t6 (List.mem_of_getElem? (i := 144) rfl), rfl⟩
theorem tw_139 : (.fieldLink RX12 78 "GhostPaneModel" "isThing" "[Z" : Cond) ∈ lw_tbl ∧ goodWord (.fieldLink RX12 78 "GhostPaneModel" "isThing" "[Z") = true := ⟨gp_t6 (List.mem_of_getElem? (i := 143) rfl), rfl⟩
theorem tw_140 : (.code yX12_thing cX12_thing 6 (some .boolean) : Cond) ∈ lw_tbl ∧ goodWord (.code yX12_thing cX12_thing 6 (some .boolean)) = true := ⟨gp_t6 (List.mem_of_getElem? (i := 9) rfl), rfl⟩
theorem tw_141 : (.selects RX12 yX12_thing yX12_thing : Cond) ∈ lw_tbl ∧ goodWord (.selects RX12 yX12_thing yX12_thing) = true := ⟨gp_t6 (List.mem_of_getElem? (i := 8) rfl), rfl⟩
theorem tw_142 : (.instanceMethod yX12_thing : Cond) ∈ lw_tbl ∧ goodWord (.instanceMethod yX12_thing) = true := ⟨gp_t6 (List.mem_of_getElem? (i := 7) rfl), rfl⟩
theorem tw_143 : (.methodLink RL 50 yX12_thing : Cond) ∈ lw_tbl ∧ goodWord (.methodLink RL 50 yX12_thing) = true := ⟨gp_t6 (List.mem_of_getElem? (i := 6) rfl), rfl⟩
theorem tw_144 : (.static yX11_takeAway : Cond) ∈ lw_tbl ∧ goodWord (.static yX11_takeAway) = true := ⟨gp_t3 (List.mem_of_getElem? (i := 62) rfl), rfl⟩
theorem tw_145 : (.methodLink RX11 153 yX11_takeAway : Cond) ∈ lw_tbl ∧ goodWord (.methodLink RX11 153 yX11_takeAway) = true := ⟨gp_t3 (List.mem_of_getElem? (i := 61) rfl), rfl⟩
theorem tw_146 : (.code yX11_takeAway cX11_takeAway 2 (some .boolean) : Cond) ∈ lw_tbl ∧ goodWord (.code yX11_takeAway cX11_takeAway 2 (some .boolean)) = true := ⟨gp_t3 (List.mem_of_getElem? (i := 63) rfl), rfl⟩
theorem tw_147 : (.code yX11_gone cX11_gone 3 (some .boolean) : Cond) ∈ lw_tbl ∧ goodWord (.code yX11_gone cX11_gone 3 (some .boolean)) = true := ⟨gp_t3 (List.mem_of_getElem? (i := 60) rfl), rfl⟩
theorem tw_148 : (.selects RX11 yX11_gone yX11_gone : Cond) ∈ lw_tbl ∧ goodWord (.selects RX11 yX11_gone yX11_gone) = true := ⟨gp_t3 (List.mem_of_getElem? (i := 59) rfl), rfl⟩
theorem tw_149 : (.instanceMethod yX11_gone : Cond) ∈ lw_tbl ∧ goodWord (.instanceMethod yX11_gone) = true := ⟨gp_t3 (List.mem_of_getElem? (i := 58) rfl), rfl⟩
theorem tw_150 : (.methodLink RL 51 yX11_gone : Cond) ∈ lw_tbl ∧ goodWord (.methodLink RL 51 yX11_gone) = true := ⟨gp_t3 (List.mem_of_getElem? (i := 57) rfl), rfl⟩
theorem tw_151 : (.selects RX12 yX12_isThe yX12_isThe : Cond) ∈ lw_tbl ∧ goodWord (.selects RX12 yX12_isThe yX12_isThe) = true := ⟨List.mem_of_getElem? (i := 39) rfl, rfl⟩
theorem tw_152 : (.instanceMethod yX12_isThe : Cond) ∈ lw_tbl ∧ goodWord (.instanceMethod yX12_isThe) = true := ⟨gp_t6 (List.mem_of_getElem? (i := 16) rfl), rfl⟩
theorem tw_153 : (.methodLink RX12 93 yX12_isThe : Cond) ∈ lw_tbl ∧ goodWord (.methodLink RX12 93 yX12_isThe) = true := ⟨gp_t6 (List.mem_of_getElem? (i := 14) rfl), rfl⟩
theorem tw_154 : (.code yX12_isThe cX12_isThe 2 (some .boolean) : Cond) ∈ lw_tbl ∧ goodWord (.code yX12_isThe cX12_isThe 2 (some .boolean)) = true := ⟨gp_t6 (List.mem_of_getElem? (i := 18) rfl), rfl⟩
theorem tw_155 : (.selects RX12 yX12_hasWall yX12_hasWall : Cond) ∈ lw_tbl ∧ goodWord (.selects RX12 yX12_hasWall yX12_hasWall) = true := ⟨List.mem_of_getElem? (i := 40) rfl, rfl⟩
theorem tw_156 : (.instanceMethod yX12_hasWall : Cond) ∈ lw_tbl ∧ goodWord (.instanceMethod yX12_hasWall) = true := ⟨gp_t6 (List.mem_of_getElem? (i := 21) rfl), rfl⟩
theorem tw_157 : (.methodLink RX12 97 yX12_hasWall : Cond) ∈ lw_tbl ∧ goodWord (.methodLink RX12 97 yX12_hasWall) = true := ⟨gp_t6 (List.mem_of_getElem? (i := 19) rfl), rfl⟩
theorem tw_158 : (.code yX12_hasWall cX12_hasWall 2 (some .boolean) : Cond) ∈ lw_tbl ∧ goodWord (.code yX12_hasWall cX12_hasWall 2 (some .boolean)) = true := ⟨gp_t6 (List.mem_of_getElem? (i := 22) rfl), rfl⟩
theorem tw_159 : (.code yX12_gone cX12_gone 3 (some .boolean) : Cond) ∈ lw_tbl ∧ goodWord (.code yX12_gone cX12_gone 3 (some .boolean)) = true := ⟨gp_t6 (List.mem_of_getElem? (i := 13) rfl), rfl⟩
theorem tw_160 : (.selects RX12 yX12_gone yX12_gone : Cond) ∈ lw_tbl ∧ goodWord (.selects RX12 yX12_gone yX12_gone) = true := ⟨gp_t6 (List.mem_of_getElem? (i := 12) rfl), rfl⟩
theorem tw_161 : (.instanceMethod yX12_gone : Cond) ∈ lw_tbl ∧ goodWord (.instanceMethod yX12_gone) = true := ⟨gp_t6 (List.mem_of_getElem? (i := 11) rfl), rfl⟩
theorem tw_162 : (.methodLink RL 55 yX12_gone : Cond) ∈ lw_tbl ∧ goodWord (.methodLink RL 55 yX12_gone) = true := ⟨gp_t6 (List.mem_of_getElem? (i := 10) rfl), rfl⟩
theorem tw_163 : (.constantLong RX11 160 (-100000000) : Cond) ∈ lw_tbl ∧ goodWord (.constantLong RX11 160 (-100000000)) = true := ⟨gp_t3 (List.mem_of_getElem? (i := 71) rfl), rfl⟩
theorem tw_164 : (.selects RX3 yX3_mirroredY yX3_mirroredY : Cond) ∈ lw_tbl ∧ goodWord (.selects RX3 yX3_mirroredY yX3_mirroredY) = true := ⟨gp_t3 (List.mem_of_getElem? (i := 97) rfl), rfl⟩
theorem tw_165 : (.instanceMethod yX3_mirroredY : Cond) ∈ lw_tbl ∧ goodWord (.instanceMethod yX3_mirroredY) = true := ⟨gp_t3 (List.mem_of_getElem? (i := 96) rfl), rfl⟩
theorem tw_166 : (.methodLink RX11 188 yX3_mirroredY : Cond) ∈ lw_tbl ∧ goodWord (.methodLink RX11 188 yX3_mirroredY) = true := ⟨gp_t3 (List.mem_of_getElem? (i := 95) rfl), rfl⟩
theorem tw_167 : (.code yX3_mirroredY cX3_mirroredY 3 (some .long) : Cond) ∈ lw_tbl ∧ goodWord (.code yX3_mirroredY cX3_mirroredY 3 (some .long)) = true := ⟨gp_t3 (List.mem_of_getElem? (i := 98) rfl), rfl⟩
theorem tw_168 : (.selects RX3 yX3_mirroredX yX3_mirroredX : Cond) ∈ lw_tbl ∧ goodWord (.selects RX3 yX3_mirroredX yX3_mirroredX) = true := ⟨gp_t3 (List.mem_of_getElem? (i := 92) rfl), rfl⟩
theorem tw_169 : (.instanceMethod yX3_mirroredX : Cond) ∈ lw_tbl ∧ goodWord (.instanceMethod yX3_mirroredX) = true := ⟨gp_t3 (List.mem_of_getElem? (i := 91) rfl), rfl⟩
theorem tw_170 : (.methodLink RX11 184 yX3_mirroredX : Cond) ∈ lw_tbl ∧ goodWord (.methodLink RX11 184 yX3_mirroredX) = true := ⟨gp_t3 (List.mem_of_getElem? (i := 90) rfl), rfl⟩
theorem tw_171 : (.methodLink RX3 60 yX3_twiceOff : Cond) ∈ lw_tbl ∧ goodWord (.methodLink RX3 60 yX3_twiceOff) = true := ⟨gp_t3 (List.mem_of_getElem? (i := 94) rfl), rfl⟩
theorem tw_172 : (.code yX3_mirroredX cX3_mirroredX 3 (some .long) : Cond) ∈ lw_tbl ∧ goodWord (.code yX3_mirroredX cX3_mirroredX 3 (some .long)) = true := ⟨gp_t3 (List.mem_of_getElem? (i := 93) rfl), rfl⟩
theorem tw_173 : (.fieldLink RX11 180 "GhostPane$Glass" "len" "J" : Cond) ∈ lw_tbl ∧ goodWord (.fieldLink RX11 180 "GhostPane$Glass" "len" "J") = true := ⟨gp_t2 (List.mem_of_getElem? (i := 70) rfl), rfl⟩
theorem tw_174 : (.selects RX3 yX3_twiceOff yX3_twiceOff : Cond) ∈ lw_tbl ∧ goodWord (.selects RX3 yX3_twiceOff yX3_twiceOff) = true := ⟨gp_t3 (List.mem_of_getElem? (i := 88) rfl), rfl⟩
theorem tw_175 : (.instanceMethod yX3_twiceOff : Cond) ∈ lw_tbl ∧ goodWord (.instanceMethod yX3_twiceOff) = true := ⟨gp_t3 (List.mem_of_getElem? (i := 87) rfl), rfl⟩
theorem tw_176 : (.methodLink RX11 177 yX3_twiceOff : Cond) ∈ lw_tbl ∧ goodWord (.methodLink RX11 177 yX3_twiceOff) = true := ⟨gp_t3 (List.mem_of_getElem? (i := 86) rfl), rfl⟩
theorem tw_177 : (.code yX3_twiceOff cX3_twiceOff 5 (some .long) : Cond) ∈ lw_tbl ∧ goodWord (.code yX3_twiceOff cX3_twiceOff 5 (some .long)) = true := ⟨gp_t3 (List.mem_of_getElem? (i := 89) rfl), rfl⟩
theorem tw_178 : (.selects RX3 yX3_twiceAlong yX3_twiceAlong : Cond) ∈ lw_tbl ∧ goodWord (.selects RX3 yX3_twiceAlong yX3_twiceAlong) = true := ⟨gp_t3 (List.mem_of_getElem? (i := 84) rfl), rfl⟩
theorem tw_179 : (.instanceMethod yX3_twiceAlong : Cond) ∈ lw_tbl ∧ goodWord (.instanceMethod yX3_twiceAlong) = true := ⟨gp_t3 (List.mem_of_getElem? (i := 83) rfl), rfl⟩
theorem tw_180 : (.methodLink RX11 171 yX3_twiceAlong : Cond) ∈ lw_tbl ∧ goodWord (.methodLink RX11 171 yX3_twiceAlong) = true := ⟨gp_t3 (List.mem_of_getElem? (i := 82) rfl), rfl⟩
theorem tw_181 : (.code yX3_twiceAlong cX3_twiceAlong 5 (some .long) : Cond) ∈ lw_tbl ∧ goodWord (.code yX3_twiceAlong cX3_twiceAlong 5 (some .long)) = true := ⟨gp_t3 (List.mem_of_getElem? (i := 85) rfl), rfl⟩
theorem tw_182 : (.constantLong RX11 169 2 : Cond) ∈ lw_tbl ∧ goodWord (.constantLong RX11 169 2) = true := ⟨gp_t3 (List.mem_of_getElem? (i := 81) rfl), rfl⟩
theorem tw_183 : (.fieldLink RX11 165 "GhostPane$Show" "glass" "LGhostPane$Glass;" : Cond) ∈ lw_tbl ∧ goodWord (.fieldLink RX11 165 "GhostPane$Show" "glass" "LGhostPane$Glass;") = true := ⟨gp_t2 (List.mem_of_getElem? (i := 123) rfl), rfl⟩
theorem tw_184 : (.initialized RX8 : Cond) ∈ lw_tbl ∧ goodWord (.initialized RX8) = true := ⟨gp_t1 (List.mem_of_getElem? (i := 8) rfl), rfl⟩
theorem tw_185 : (.selects RX8 yX8_layOwn yX8_layOwn : Cond) ∈ lw_tbl ∧ goodWord (.selects RX8 yX8_layOwn yX8_layOwn) = true := ⟨gp_t3 (List.mem_of_getElem? (i := 74) rfl), rfl⟩
theorem tw_186 : (.instanceMethod yX8_layOwn : Cond) ∈ lw_tbl ∧ goodWord (.instanceMethod yX8_layOwn) = true := ⟨gp_t3 (List.mem_of_getElem? (i := 73) rfl), rfl⟩
theorem tw_187 : (.methodLink RX11 162 yX8_layOwn : Cond) ∈ lw_tbl ∧ goodWord (.methodLink RX11 162 yX8_layOwn) = true := ⟨gp_t3 (List.mem_of_getElem? (i := 72) rfl), rfl⟩
theorem tw_188 : (.initialized RX3 : Cond) ∈ lw_tbl ∧ goodWord (.initialized RX3) = true := ⟨gp_t1 (List.mem_of_getElem? (i := 9) rfl), rfl⟩
theorem tw_189 : (.selects RX3 yX3_lay yX3_lay : Cond) ∈ lw_tbl ∧ goodWord (.selects RX3 yX3_lay yX3_lay) = true := ⟨gp_t3 (List.mem_of_getElem? (i := 78) rfl), rfl⟩
theorem tw_190 : (.instanceMethod yX3_lay : Cond) ∈ lw_tbl ∧ goodWord (.instanceMethod yX3_lay) = true := ⟨gp_t3 (List.mem_of_getElem? (i := 77) rfl), rfl⟩
theorem tw_191 : (.methodLink RX8 38 yX3_lay : Cond) ∈ lw_tbl ∧ goodWord (.methodLink RX8 38 yX3_lay) = true := ⟨gp_t3 (List.mem_of_getElem? (i := 76) rfl), rfl⟩
theorem tw_192 : (.fieldLink RX3 53 "GhostPane$Room" "ofPit" "[Z" : Cond) ∈ lw_tbl ∧ goodWord (.fieldLink RX3 53 "GhostPane$Room" "ofPit" "[Z") = true := ⟨gp_t2 (List.mem_of_getElem? (i := 7) rfl), rfl⟩
theorem tw_193 : (.fieldLink RX3 56 "GhostPane$Room" "wallEnds" "[[I" : Cond) ∈ lw_tbl ∧ goodWord (.fieldLink RX3 56 "GhostPane$Room" "wallEnds" "[[I") = true := ⟨gp_t2 (List.mem_of_getElem? (i := 4) rfl), rfl⟩
theorem tw_194 : (.fieldLink RX3 11 "GhostPane$Glass" "ends2" "[[J" : Cond) ∈ lw_tbl ∧ goodWord (.fieldLink RX3 11 "GhostPane$Glass" "ends2" "[[J") = true := ⟨gp_t2 (List.mem_of_getElem? (i := 73) rfl), rfl⟩
theorem tw_195 : (.fieldLink RX3 50 "GhostPane$Room" "wallThere" "[Z" : Cond) ∈ lw_tbl ∧ goodWord (.fieldLink RX3 50 "GhostPane$Room" "wallThere" "[Z") = true := ⟨gp_t2 (List.mem_of_getElem? (i := 1) rfl), rfl⟩
theorem tw_196 : (.fieldLink RX3 16 "GhostPane$Glass" "stands" "[Z" : Cond) ∈ lw_tbl ∧ goodWord (.fieldLink RX3 16 "GhostPane$Glass" "stands" "[Z") = true := ⟨gp_t2 (List.mem_of_getElem? (i := 75) rfl), rfl⟩
theorem tw_197 : (.fieldLink RX3 47 "GhostPane$Glass" "deep" "I" : Cond) ∈ lw_tbl ∧ goodWord (.fieldLink RX3 47 "GhostPane$Glass" "deep" "I") = true := ⟨gp_t2 (List.mem_of_getElem? (i := 71) rfl), rfl⟩
theorem tw_198 : (.fieldLink RX3 44 "GhostPane$Glass" "len" "J" : Cond) ∈ lw_tbl ∧ goodWord (.fieldLink RX3 44 "GhostPane$Glass" "len" "J") = true := ⟨gp_t2 (List.mem_of_getElem? (i := 68) rfl), rfl⟩
theorem tw_199 : (.fieldLink RX3 41 "GhostPane$Glass" "cy" "J" : Cond) ∈ lw_tbl ∧ goodWord (.fieldLink RX3 41 "GhostPane$Glass" "cy" "J") = true := ⟨gp_t2 (List.mem_of_getElem? (i := 79) rfl), rfl⟩
theorem tw_200 : (.fieldLink RX3 38 "GhostPane$Glass" "cx" "J" : Cond) ∈ lw_tbl ∧ goodWord (.fieldLink RX3 38 "GhostPane$Glass" "cx" "J") = true := ⟨gp_t2 (List.mem_of_getElem? (i := 78) rfl), rfl⟩
theorem tw_201 : (.fieldLink RX3 35 "GhostPane$Glass" "ay2" "J" : Cond) ∈ lw_tbl ∧ goodWord (.fieldLink RX3 35 "GhostPane$Glass" "ay2" "J") = true := ⟨gp_t2 (List.mem_of_getElem? (i := 77) rfl), rfl⟩
theorem tw_202 : (.fieldLink RX3 32 "GhostPane$Room" "ay" "I" : Cond) ∈ lw_tbl ∧ goodWord (.fieldLink RX3 32 "GhostPane$Room" "ay" "I") = true := ⟨gp_t1 (List.mem_of_getElem? (i := 198) rfl), rfl⟩
theorem tw_203 : (.fieldLink RX3 28 "GhostPane$Glass" "ax2" "J" : Cond) ∈ lw_tbl ∧ goodWord (.fieldLink RX3 28 "GhostPane$Glass" "ax2" "J") = true := ⟨gp_t2 (List.mem_of_getElem? (i := 76) rfl), rfl⟩
theorem tw_204 : (.fieldLink RX3 22 "GhostPane$Room" "ax" "I" : Cond) ∈ lw_tbl ∧ goodWord (.fieldLink RX3 22 "GhostPane$Room" "ax" "I") = true := ⟨gp_t1 (List.mem_of_getElem? (i := 194) rfl), rfl⟩
theorem tw_205 : (.constantLong RX3 20 2 : Cond) ∈ lw_tbl ∧ goodWord (.constantLong RX3 20 2) = true := ⟨gp_t3 (List.mem_of_getElem? (i := 80) rfl), rfl⟩
theorem tw_206 : (.code yX3_lay cX3_lay 7 none : Cond) ∈ lw_tbl ∧ goodWord (.code yX3_lay cX3_lay 7 none) = true := ⟨gp_t3 (List.mem_of_getElem? (i := 79) rfl), rfl⟩
theorem tw_207 : (.fieldLink RX8 35 "GhostPane$Room" "deep" "I" : Cond) ∈ lw_tbl ∧ goodWord (.fieldLink RX8 35 "GhostPane$Room" "deep" "I") = true := ⟨gp_t1 (List.mem_of_getElem? (i := 228) rfl), rfl⟩
theorem tw_208 : (.fieldLink RX8 32 "GhostPane$Room" "by" "I" : Cond) ∈ lw_tbl ∧ goodWord (.fieldLink RX8 32 "GhostPane$Room" "by" "I") = true := ⟨gp_t1 (List.mem_of_getElem? (i := 206) rfl), rfl⟩
theorem tw_209 : (.fieldLink RX8 26 "GhostPane$Room" "bx" "I" : Cond) ∈ lw_tbl ∧ goodWord (.fieldLink RX8 26 "GhostPane$Room" "bx" "I") = true := ⟨gp_t1 (List.mem_of_getElem? (i := 202) rfl), rfl⟩
theorem tw_210 : (.fieldLink RX8 9 "GhostPane$Show" "room" "LGhostPane$Room;" : Cond) ∈ lw_tbl ∧ goodWord (.fieldLink RX8 9 "GhostPane$Show" "room" "LGhostPane$Room;") = true := ⟨gp_t2 (List.mem_of_getElem? (i := 129) rfl), rfl⟩
theorem tw_211 : (.fieldLink RX8 22 "GhostPane$Show" "glass" "LGhostPane$Glass;" : Cond) ∈ lw_tbl ∧ goodWord (.fieldLink RX8 22 "GhostPane$Show" "glass" "LGhostPane$Glass;") = true := ⟨gp_t2 (List.mem_of_getElem? (i := 122) rfl), rfl⟩
theorem tw_212 : (.code yX8_layOwn cX8_layOwn 1 none : Cond) ∈ lw_tbl ∧ goodWord (.code yX8_layOwn cX8_layOwn 1 none) = true := ⟨gp_t3 (List.mem_of_getElem? (i := 75) rfl), rfl⟩
theorem tw_213 : (.fieldLink RX11 44 "GhostPane" "show" "LGhostPane$Show;" : Cond) ∈ lw_tbl ∧ goodWord (.fieldLink RX11 44 "GhostPane" "show" "LGhostPane$Show;") = true := ⟨gp_t2 (List.mem_of_getElem? (i := 227) rfl), rfl⟩
theorem tw_214 : (.static yX11_isFarPlace : Cond) ∈ lw_tbl ∧ goodWord (.static yX11_isFarPlace) = true := ⟨gp_t3 (List.mem_of_getElem? (i := 69) rfl), rfl⟩
theorem tw_215 : (.methodLink RX11 157 yX11_isFarPlace : Cond) ∈ lw_tbl ∧ goodWord (.methodLink RX11 157 yX11_isFarPlace) = true := ⟨gp_t3 (List.mem_of_getElem? (i := 68) rfl), rfl⟩
theorem tw_216 : (.code yX11_isFarPlace cX11_isFarPlace 2 (some .boolean) : Cond) ∈ lw_tbl ∧ goodWord (.code yX11_isFarPlace cX11_isFarPlace 2 (some .boolean)) = true := ⟨gp_t3 (List.mem_of_getElem? (i := 70) rfl), rfl⟩
theorem tw_217 : (.code yX11_of cX11_of 4 (some .long) : Cond) ∈ lw_tbl ∧ goodWord (.code yX11_of cX11_of 4 (some .long)) = true := ⟨gp_t3 (List.mem_of_getElem? (i := 67) rfl), rfl⟩
theorem tw_218 : (.selects RX11 yX11_of yX11_of : Cond) ∈ lw_tbl ∧ goodWord (.selects RX11 yX11_of yX11_of) = true := ⟨gp_t3 (List.mem_of_getElem? (i := 66) rfl), rfl⟩
theorem tw_219 : (.instanceMethod yX11_of : Cond) ∈ lw_tbl ∧ goodWord (.instanceMethod yX11_of) = true := ⟨gp_t3 (List.mem_of_getElem? (i := 65) rfl), rfl⟩
theorem tw_220 : (.methodLink RL 56 yX11_of : Cond) ∈ lw_tbl ∧ goodWord (.methodLink RL 56 yX11_of) = true := ⟨gp_t3 (List.mem_of_getElem? (i := 64) rfl), rfl⟩
theorem tw_221 : (.constantLong RX12 116 (-100000000) : Cond) ∈ lw_tbl ∧ goodWord (.constantLong RX12 116 (-100000000)) = true := ⟨gp_t6 (List.mem_of_getElem? (i := 30) rfl), rfl⟩
theorem tw_222 : (.selects RX12 yX12_mirroredY yX12_mirroredY : Cond) ∈ lw_tbl ∧ goodWord (.selects RX12 yX12_mirroredY yX12_mirroredY) = true := ⟨List.mem_of_getElem? (i := 45) rfl, rfl⟩
theorem tw_223 : (.instanceMethod yX12_mirroredY : Cond) ∈ lw_tbl ∧ goodWord (.instanceMethod yX12_mirroredY) = true := ⟨gp_t6 (List.mem_of_getElem? (i := 50) rfl), rfl⟩
theorem tw_224 : (.methodLink RX12 121 yX12_mirroredY : Cond) ∈ lw_tbl ∧ goodWord (.methodLink RX12 121 yX12_mirroredY) = true := ⟨gp_t6 (List.mem_of_getElem? (i := 48) rfl), rfl⟩
theorem tw_225 : (.code yX12_mirroredY cX12_mirroredY 5 (some .long) : Cond) ∈ lw_tbl ∧ goodWord (.code yX12_mirroredY cX12_mirroredY 5 (some .long)) = true := ⟨gp_t6 (List.mem_of_getElem? (i := 51) rfl), rfl⟩
theorem tw_226 : (.selects RX12 yX12_mirroredX yX12_mirroredX : Cond) ∈ lw_tbl ∧ goodWord (.selects RX12 yX12_mirroredX yX12_mirroredX) = true := ⟨List.mem_of_getElem? (i := 44) rfl, rfl⟩
theorem tw_227 : (.instanceMethod yX12_mirroredX : Cond) ∈ lw_tbl ∧ goodWord (.instanceMethod yX12_mirroredX) = true := ⟨gp_t6 (List.mem_of_getElem? (i := 45) rfl), rfl⟩
theorem tw_228 : (.methodLink RX12 118 yX12_mirroredX : Cond) ∈ lw_tbl ∧ goodWord (.methodLink RX12 118 yX12_mirroredX) = true := ⟨gp_t6 (List.mem_of_getElem? (i := 43) rfl), rfl⟩
theorem tw_229 : (.constantLong RX12 108 2 : Cond) ∈ lw_tbl ∧ goodWord (.constantLong RX12 108 2) = true := ⟨gp_t6 (List.mem_of_getElem? (i := 47) rfl), rfl⟩
theorem tw_230 : (.code yX12_mirroredX cX12_mirroredX 5 (some .long) : Cond) ∈ lw_tbl ∧ goodWord (.code yX12_mirroredX cX12_mirroredX 5 (some .long)) = true := ⟨gp_t6 (List.mem_of_getElem? (i := 46) rfl), rfl⟩
theorem tw_231 : (.selects RX12 yX12_length yX12_length : Cond) ∈ lw_tbl ∧ goodWord (.selects RX12 yX12_length yX12_length) = true := ⟨List.mem_of_getElem? (i := 43) rfl, rfl⟩
theorem tw_232 : (.instanceMethod yX12_length : Cond) ∈ lw_tbl ∧ goodWord (.instanceMethod yX12_length) = true := ⟨gp_t6 (List.mem_of_getElem? (i := 41) rfl), rfl⟩
theorem tw_233 : (.methodLink RX12 104 yX12_length : Cond) ∈ lw_tbl ∧ goodWord (.methodLink RX12 104 yX12_length) = true := ⟨gp_t6 (List.mem_of_getElem? (i := 39) rfl), rfl⟩
theorem tw_234 : (.code yX12_length cX12_length 1 (some .long) : Cond) ∈ lw_tbl ∧ goodWord (.code yX12_length cX12_length 1 (some .long)) = true := ⟨gp_t6 (List.mem_of_getElem? (i := 42) rfl), rfl⟩
theorem tw_235 : (.selects RX12 yX12_off yX12_off : Cond) ∈ lw_tbl ∧ goodWord (.selects RX12 yX12_off yX12_off) = true := ⟨List.mem_of_getElem? (i := 42) rfl, rfl⟩
theorem tw_236 : (.instanceMethod yX12_off : Cond) ∈ lw_tbl ∧ goodWord (.instanceMethod yX12_off) = true := ⟨gp_t6 (List.mem_of_getElem? (i := 37) rfl), rfl⟩
theorem tw_237 : (.methodLink RX12 110 yX12_off : Cond) ∈ lw_tbl ∧ goodWord (.methodLink RX12 110 yX12_off) = true := ⟨gp_t6 (List.mem_of_getElem? (i := 35) rfl), rfl⟩
theorem tw_238 : (.code yX12_off cX12_off 5 (some .long) : Cond) ∈ lw_tbl ∧ goodWord (.code yX12_off cX12_off 5 (some .long)) = true := ⟨gp_t6 (List.mem_of_getElem? (i := 38) rfl), rfl⟩
theorem tw_239 : (.selects RX12 yX12_along yX12_along : Cond) ∈ lw_tbl ∧ goodWord (.selects RX12 yX12_along yX12_along) = true := ⟨List.mem_of_getElem? (i := 41) rfl, rfl⟩
theorem tw_240 : (.instanceMethod yX12_along : Cond) ∈ lw_tbl ∧ goodWord (.instanceMethod yX12_along) = true := ⟨gp_t6 (List.mem_of_getElem? (i := 33) rfl), rfl⟩
theorem tw_241 : (.methodLink RX12 100 yX12_along : Cond) ∈ lw_tbl ∧ goodWord (.methodLink RX12 100 yX12_along) = true := ⟨gp_t6 (List.mem_of_getElem? (i := 31) rfl), rfl⟩
theorem tw_242 : (.code yX12_along cX12_along 5 (some .long) : Cond) ∈ lw_tbl ∧ goodWord (.code yX12_along cX12_along 5 (some .long)) = true := ⟨gp_t6 (List.mem_of_getElem? (i := 34) rfl), rfl⟩
theorem tw_243 : (.static yX12_isWide : Cond) ∈ lw_tbl ∧ goodWord (.static yX12_isWide) = true := ⟨gp_t6 (List.mem_of_getElem? (i := 28) rfl), rfl⟩
theorem tw_244 : (.methodLink RX12 113 yX12_isWide : Cond) ∈ lw_tbl ∧ goodWord (.methodLink RX12 113 yX12_isWide) = true := ⟨gp_t6 (List.mem_of_getElem? (i := 27) rfl), rfl⟩
theorem tw_245 : (.code yX12_isWide cX12_isWide 2 (some .boolean) : Cond) ∈ lw_tbl ∧ goodWord (.code yX12_isWide cX12_isWide 2 (some .boolean)) = true := ⟨gp_t6 (List.mem_of_getElem? (i := 29) rfl), rfl⟩
theorem tw_246 : (.code yX12_of cX12_of 4 (some .long) : Cond) ∈ lw_tbl ∧ goodWord (.code yX12_of cX12_of 4 (some .long)) = true := ⟨gp_t6 (List.mem_of_getElem? (i := 26) rfl), rfl⟩
theorem tw_247 : (.selects RX12 yX12_of yX12_of : Cond) ∈ lw_tbl ∧ goodWord (.selects RX12 yX12_of yX12_of) = true := ⟨gp_t6 (List.mem_of_getElem? (i := 25) rfl), rfl⟩
theorem tw_248 : (.instanceMethod yX12_of : Cond) ∈ lw_tbl ∧ goodWord (.instanceMethod yX12_of) = true := ⟨gp_t6 (List.mem_of_getElem? (i := 24) rfl), rfl⟩
theorem tw_249 : (.methodLink RL 60 yX12_of : Cond) ∈ lw_tbl ∧ goodWord (.methodLink RL 60 yX12_of) = true := ⟨gp_t6 (List.mem_of_getElem? (i := 23) rfl), rfl⟩
theorem tw_250 : (.static yX11_bit : Cond) ∈ lw_tbl ∧ goodWord (.static yX11_bit) = true := ⟨gp_t3 (List.mem_of_getElem? (i := 138) rfl), rfl⟩
theorem tw_251 : (.methodLink RX11 199 yX11_bit : Cond) ∈ lw_tbl ∧ goodWord (.methodLink RX11 199 yX11_bit) = true := ⟨gp_t3 (List.mem_of_getElem? (i := 137) rfl), rfl⟩
theorem tw_252 : (.code yX11_bit cX11_bit 1 (some .int) : Cond) ∈ lw_tbl ∧ goodWord (.code yX11_bit cX11_bit 1 (some .int)) = true := ⟨gp_t3 (List.mem_of_getElem? (i := 139) rfl), rfl⟩
theorem tw_253 : (.selects RX8 yX8_eyeSees yX8_eyeSees : Cond) ∈ lw_tbl ∧ goodWord (.selects RX8 yX8_eyeSees yX8_eyeSees) = true := ⟨gp_t3 (List.mem_of_getElem? (i := 109) rfl), rfl⟩
theorem tw_254 : (.instanceMethod yX8_eyeSees : Cond) ∈ lw_tbl ∧ goodWord (.instanceMethod yX8_eyeSees) = true := ⟨gp_t3 (List.mem_of_getElem? (i := 108) rfl), rfl⟩
theorem tw_255 : (.methodLink RX11 195 yX8_eyeSees : Cond) ∈ lw_tbl ∧ goodWord (.methodLink RX11 195 yX8_eyeSees) = true := ⟨gp_t3 (List.mem_of_getElem? (i := 107) rfl), rfl⟩
theorem tw_256 : (.selects RX3 yX3_canSee yX3_canSee : Cond) ∈ lw_tbl ∧ goodWord (.selects RX3 yX3_canSee yX3_canSee) = true := ⟨gp_t3 (List.mem_of_getElem? (i := 114) rfl), rfl⟩
theorem tw_257 : (.instanceMethod yX3_canSee : Cond) ∈ lw_tbl ∧ goodWord (.instanceMethod yX3_canSee) = true := ⟨gp_t3 (List.mem_of_getElem? (i := 113) rfl), rfl⟩
theorem tw_258 : (.methodLink RX8 63 yX3_canSee : Cond) ∈ lw_tbl ∧ goodWord (.methodLink RX8 63 yX3_canSee) = true := ⟨gp_t3 (List.mem_of_getElem? (i := 112) rfl), rfl⟩
theorem tw_259 : (.selects RX3 yX3_isOpen yX3_isOpen : Cond) ∈ lw_tbl ∧ goodWord (.selects RX3 yX3_isOpen yX3_isOpen) = true := ⟨List.mem_of_getElem? (i := 0) rfl, rfl⟩
theorem tw_260 : (.instanceMethod yX3_isOpen : Cond) ∈ lw_tbl ∧ goodWord (.instanceMethod yX3_isOpen) = true := ⟨gp_t3 (List.mem_of_getElem? (i := 123) rfl), rfl⟩
theorem tw_261 : (.methodLink RX3 85 yX3_isOpen : Cond) ∈ lw_tbl ∧ goodWord (.methodLink RX3 85 yX3_isOpen) = true := ⟨gp_t3 (List.mem_of_getElem? (i := 121) rfl), rfl⟩
theorem tw_262 : (.selects RX3 yX3_isInWay yX3_isInWay : Cond) ∈ lw_tbl ∧ goodWord (.selects RX3 yX3_isInWay yX3_isInWay) = true := ⟨List.mem_of_getElem? (i := 2) rfl, rfl⟩
theorem tw_263 : (.instanceMethod yX3_isInWay : Cond) ∈ lw_tbl ∧ goodWord (.instanceMethod yX3_isInWay) = true := ⟨gp_t3 (List.mem_of_getElem? (i := 131) rfl), rfl⟩
theorem tw_264 : (.methodLink RX3 93 yX3_isInWay : Cond) ∈ lw_tbl ∧ goodWord (.methodLink RX3 93 yX3_isInWay) = true := ⟨gp_t3 (List.mem_of_getElem? (i := 129) rfl), rfl⟩
theorem tw_265 : (.selects RX3 yX3_overlaps yX3_overlaps : Cond) ∈ lw_tbl ∧ goodWord (.selects RX3 yX3_overlaps yX3_overlaps) = true := ⟨List.mem_of_getElem? (i := 3) rfl, rfl⟩
theorem tw_266 : (.instanceMethod yX3_overlaps : Cond) ∈ lw_tbl ∧ goodWord (.instanceMethod yX3_overlaps) = true := ⟨gp_t3 (List.mem_of_getElem? (i := 135) rfl), rfl⟩
theorem tw_267 : (.methodLink RX3 109 yX3_overlaps : Cond) ∈ lw_tbl ∧ goodWord (.methodLink RX3 109 yX3_overlaps) = true := ⟨gp_t3 (List.mem_of_getElem? (i := 133) rfl), rfl⟩
theorem tw_268 : (.code yX3_overlaps cX3_overlaps 11 (some .boolean) : Cond) ∈ lw_tbl ∧ goodWord (.code yX3_overlaps cX3_overlaps 11 (some .boolean)) = true := ⟨gp_t3 (List.mem_of_getElem? (i := 136) rfl), rfl⟩
theorem tw_269 : (.code yX3_isInWay cX3_isInWay 18 (some .boolean) : Cond) ∈ lw_tbl ∧ goodWord (.code yX3_isInWay cX3_isInWay 18 (some .boolean)) = true := ⟨gp_t3 (List.mem_of_getElem? (i := 132) rfl), rfl⟩
theorem tw_270 : (.selects RX3 yX3_look yX3_look : Cond) ∈ lw_tbl ∧ goodWord (.selects RX3 yX3_look yX3_look) = true := ⟨List.mem_of_getElem? (i := 1) rfl, rfl⟩
theorem tw_271 : (.instanceMethod yX3_look : Cond) ∈ lw_tbl ∧ goodWord (.instanceMethod yX3_look) = true := ⟨gp_t3 (List.mem_of_getElem? (i := 127) rfl), rfl⟩
theorem tw_272 : (.methodLink RX3 89 yX3_look : Cond) ∈ lw_tbl ∧ goodWord (.methodLink RX3 89 yX3_look) = true := ⟨gp_t3 (List.mem_of_getElem? (i := 125) rfl), rfl⟩
theorem tw_273 : (.fieldLink RX3 106 "GhostPane$Glass" "goY" "J" : Cond) ∈ lw_tbl ∧ goodWord (.fieldLink RX3 106 "GhostPane$Glass" "goY" "J") = true := ⟨gp_t2 (List.mem_of_getElem? (i := 87) rfl), rfl⟩
theorem tw_274 : (.fieldLink RX3 103 "GhostPane$Glass" "goX" "J" : Cond) ∈ lw_tbl ∧ goodWord (.fieldLink RX3 103 "GhostPane$Glass" "goX" "J") = true := ⟨gp_t2 (List.mem_of_getElem? (i := 86) rfl), rfl⟩
theorem tw_275 : (.fieldLink RX3 100 "GhostPane$Glass" "fromY2" "J" : Cond) ∈ lw_tbl ∧ goodWord (.fieldLink RX3 100 "GhostPane$Glass" "fromY2" "J") = true := ⟨gp_t2 (List.mem_of_getElem? (i := 85) rfl), rfl⟩
theorem tw_276 : (.fieldLink RX3 97 "GhostPane$Glass" "fromX2" "J" : Cond) ∈ lw_tbl ∧ goodWord (.fieldLink RX3 97 "GhostPane$Glass" "fromX2" "J") = true := ⟨gp_t2 (List.mem_of_getElem? (i := 84) rfl), rfl⟩
theorem tw_277 : (.code yX3_look cX3_look 5 none : Cond) ∈ lw_tbl ∧ goodWord (.code yX3_look cX3_look 5 none) = true := ⟨gp_t3 (List.mem_of_getElem? (i := 128) rfl), rfl⟩
theorem tw_278 : (.code yX3_isOpen cX3_isOpen 6 (some .boolean) : Cond) ∈ lw_tbl ∧ goodWord (.code yX3_isOpen cX3_isOpen 6 (some .boolean)) = true := ⟨gp_t3 (List.mem_of_getElem? (i := 124) rfl), rfl⟩
theorem tw_279 : (.selects RX3 yX3_meets yX3_meets : Cond) ∈ lw_tbl ∧ goodWord (.selects RX3 yX3_meets yX3_meets) = true := ⟨gp_t3 (List.mem_of_getElem? (i := 118) rfl), rfl⟩
theorem tw_280 : (.instanceMethod yX3_meets : Cond) ∈ lw_tbl ∧ goodWord (.instanceMethod yX3_meets) = true := ⟨gp_t3 (List.mem_of_getElem? (i := 117) rfl), rfl⟩
theorem tw_281 : (.methodLink RX3 81 yX3_meets : Cond) ∈ lw_tbl ∧ goodWord (.methodLink RX3 81 yX3_meets) = true := ⟨gp_t3 (List.mem_of_getElem? (i := 116) rfl), rfl⟩
theorem tw_282 : (.fieldLink RX3 76 "GhostPane$Glass" "yTimes" "J" : Cond) ∈ lw_tbl ∧ goodWord (.fieldLink RX3 76 "GhostPane$Glass" "yTimes" "J") = true := ⟨gp_t2 (List.mem_of_getElem? (i := 83) rfl), rfl⟩
theorem tw_283 : (.fieldLink RX3 73 "GhostPane$Glass" "xTimes" "J" : Cond) ∈ lw_tbl ∧ goodWord (.fieldLink RX3 73 "GhostPane$Glass" "xTimes" "J") = true := ⟨gp_t2 (List.mem_of_getElem? (i := 82) rfl), rfl⟩
theorem tw_284 : (.fieldLink RX3 70 "GhostPane$Glass" "whole" "J" : Cond) ∈ lw_tbl ∧ goodWord (.fieldLink RX3 70 "GhostPane$Glass" "whole" "J") = true := ⟨gp_t2 (List.mem_of_getElem? (i := 81) rfl), rfl⟩
theorem tw_285 : (.fieldLink RX3 67 "GhostPane$Glass" "along" "J" : Cond) ∈ lw_tbl ∧ goodWord (.fieldLink RX3 67 "GhostPane$Glass" "along" "J") = true := ⟨gp_t2 (List.mem_of_getElem? (i := 80) rfl), rfl⟩
theorem tw_286 : (.methodLink RX3 64 yX3_twiceAlong : Cond) ∈ lw_tbl ∧ goodWord (.methodLink RX3 64 yX3_twiceAlong) = true := ⟨gp_t3 (List.mem_of_getElem? (i := 120) rfl), rfl⟩
theorem tw_287 : (.code yX3_meets cX3_meets 15 (some .boolean) : Cond) ∈ lw_tbl ∧ goodWord (.code yX3_meets cX3_meets 15 (some .boolean)) = true := ⟨gp_t3 (List.mem_of_getElem? (i := 119) rfl), rfl⟩
theorem tw_288 : (.code yX3_canSee cX3_canSee 9 (some .boolean) : Cond) ∈ lw_tbl ∧ goodWord (.code yX3_canSee cX3_canSee 9 (some .boolean)) = true := ⟨gp_t3 (List.mem_of_getElem? (i := 115) rfl), rfl⟩
theorem tw_289 : (.fieldLink RX8 60 "GhostPane$Room" "eyeY" "[I" : Cond) ∈ lw_tbl ∧ goodWord (.fieldLink RX8 60 "GhostPane$Room" "eyeY" "[I") = true := ⟨gp_t1 (List.mem_of_getElem? (i := 238) rfl), rfl⟩
theorem tw_290 : (.fieldLink RX8 56 "GhostPane$Room" "eyeX" "[I" : Cond) ∈ lw_tbl ∧ goodWord (.fieldLink RX8 56 "GhostPane$Room" "eyeX" "[I") = true := ⟨gp_t1 (List.mem_of_getElem? (i := 235) rfl), rfl⟩
theorem tw_291 : (.constantLong RX8 54 2 : Cond) ∈ lw_tbl ∧ goodWord (.constantLong RX8 54 2) = true := ⟨gp_t3 (List.mem_of_getElem? (i := 111) rfl), rfl⟩
theorem tw_292 : (.code yX8_eyeSees cX8_eyeSees 6 (some .boolean) : Cond) ∈ lw_tbl ∧ goodWord (.code yX8_eyeSees cX8_eyeSees 6 (some .boolean)) = true := ⟨gp_t3 (List.mem_of_getElem? (i := 110) rfl), rfl⟩
theorem tw_293 : (.initialized RX7 : Cond) ∈ lw_tbl ∧ goodWord (.initialized RX7) = true := ⟨gp_t1 (List.mem_of_getElem? (i := 7) rfl), rfl⟩
theorem tw_294 : (.selects RX7 yX7_hasSeat yX7_hasSeat : Cond) ∈ lw_tbl ∧ goodWord (.selects RX7 yX7_hasSeat yX7_hasSeat) = true := ⟨gp_t3 (List.mem_of_getElem? (i := 105) rfl), rfl⟩
theorem tw_295 : (.instanceMethod yX7_hasSeat : Cond) ∈ lw_tbl ∧ goodWord (.instanceMethod yX7_hasSeat) = true := ⟨gp_t3 (List.mem_of_getElem? (i := 104) rfl), rfl⟩
theorem tw_296 : (.methodLink RX11 191 yX7_hasSeat : Cond) ∈ lw_tbl ∧ goodWord (.methodLink RX11 191 yX7_hasSeat) = true := ⟨gp_t3 (List.mem_of_getElem? (i := 103) rfl), rfl⟩
theorem tw_297 : (.fieldLink RX7 45 "GhostPane$Room" "seatThere" "[Z" : Cond) ∈ lw_tbl ∧ goodWord (.fieldLink RX7 45 "GhostPane$Room" "seatThere" "[Z") = true := ⟨gp_t1 (List.mem_of_getElem? (i := 231) rfl), rfl⟩
theorem tw_298 : (.code yX7_hasSeat cX7_hasSeat 2 (some .boolean) : Cond) ∈ lw_tbl ∧ goodWord (.code yX7_hasSeat cX7_hasSeat 2 (some .boolean)) = true := ⟨gp_t3 (List.mem_of_getElem? (i := 106) rfl), rfl⟩
theorem tw_299 : (.code yX11_sees cX11_sees 4 (some .int) : Cond) ∈ lw_tbl ∧ goodWord (.code yX11_sees cX11_sees 4 (some .int)) = true := ⟨gp_t3 (List.mem_of_getElem? (i := 102) rfl), rfl⟩
theorem tw_300 : (.selects RX11 yX11_sees yX11_sees : Cond) ∈ lw_tbl ∧ goodWord (.selects RX11 yX11_sees yX11_sees) = true := ⟨gp_t3 (List.mem_of_getElem? (i := 101) rfl), rfl⟩
theorem tw_301 : (.instanceMethod yX11_sees : Cond) ∈ lw_tbl ∧ goodWord (.instanceMethod yX11_sees) = true := ⟨gp_t3 (List.mem_of_getElem? (i := 100) rfl), rfl⟩
theorem tw_302 : (.methodLink RL 61 yX11_sees : Cond) ∈ lw_tbl ∧ goodWord (.methodLink RL 61 yX11_sees) = true := ⟨gp_t3 (List.mem_of_getElem? (i := 99) rfl), rfl⟩
theorem tw_303 : (.selects RX12 yX12_seesIt yX12_seesIt : Cond) ∈ lw_tbl ∧ goodWord (.selects RX12 yX12_seesIt yX12_seesIt) = true := ⟨List.mem_of_getElem? (i := 46) rfl, rfl⟩
theorem tw_304 : (.instanceMethod yX12_seesIt : Cond) ∈ lw_tbl ∧ goodWord (.instanceMethod yX12_seesIt) = true := ⟨gp_t6 (List.mem_of_getElem? (i := 58) rfl), rfl⟩
theorem tw_305 : (.methodLink RX12 174 yX12_seesIt : Cond) ∈ lw_tbl ∧ goodWord (.methodLink RX12 174 yX12_seesIt) = true := ⟨gp_t6 (List.mem_of_getElem? (i := 56) rfl), rfl⟩
theorem tw_306 : (.selects RX12 yX12_stopping yX12_stopping : Cond) ∈ lw_tbl ∧ goodWord (.selects RX12 yX12_stopping yX12_stopping) = true := ⟨List.mem_of_getElem? (i := 48) rfl, rfl⟩
theorem tw_307 : (.instanceMethod yX12_stopping : Cond) ∈ lw_tbl ∧ goodWord (.instanceMethod yX12_stopping) = true := ⟨gp_t6 (List.mem_of_getElem? (i := 66) rfl), rfl⟩
theorem tw_308 : (.methodLink RX12 170 yX12_stopping : Cond) ∈ lw_tbl ∧ goodWord (.methodLink RX12 170 yX12_stopping) = true := ⟨gp_t6 (List.mem_of_getElem? (i := 64) rfl), rfl⟩
theorem tw_309 : (.selects RX12 yX12_stops yX12_stops : Cond) ∈ lw_tbl ∧ goodWord (.selects RX12 yX12_stops yX12_stops) = true := ⟨List.mem_of_getElem? (i := 49) rfl, rfl⟩
theorem tw_310 : (.instanceMethod yX12_stops : Cond) ∈ lw_tbl ∧ goodWord (.instanceMethod yX12_stops) = true := ⟨gp_t6 (List.mem_of_getElem? (i := 70) rfl), rfl⟩
theorem tw_311 : (.methodLink RX12 163 yX12_stops : Cond) ∈ lw_tbl ∧ goodWord (.methodLink RX12 163 yX12_stops) = true := ⟨gp_t6 (List.mem_of_getElem? (i := 68) rfl), rfl⟩
theorem tw_312 : (.static yX12_more : Cond) ∈ lw_tbl ∧ goodWord (.static yX12_more) = true := ⟨gp_t6 (List.mem_of_getElem? (i := 83) rfl), rfl⟩
theorem tw_313 : (.methodLink RX12 160 yX12_more : Cond) ∈ lw_tbl ∧ goodWord (.methodLink RX12 160 yX12_more) = true := ⟨gp_t6 (List.mem_of_getElem? (i := 82) rfl), rfl⟩
theorem tw_314 : (.code yX12_more cX12_more 4 (some .long) : Cond) ∈ lw_tbl ∧ goodWord (.code yX12_more cX12_more 4 (some .long)) = true := ⟨gp_t6 (List.mem_of_getElem? (i := 84) rfl), rfl⟩
theorem tw_315 : (.static yX12_less : Cond) ∈ lw_tbl ∧ goodWord (.static yX12_less) = true := ⟨gp_t6 (List.mem_of_getElem? (i := 80) rfl), rfl⟩
theorem tw_316 : (.methodLink RX12 157 yX12_less : Cond) ∈ lw_tbl ∧ goodWord (.methodLink RX12 157 yX12_less) = true := ⟨gp_t6 (List.mem_of_getElem? (i := 79) rfl), rfl⟩
theorem tw_317 : (.code yX12_less cX12_less 4 (some .long) : Cond) ∈ lw_tbl ∧ goodWord (.code yX12_less cX12_less 4 (some .long)) = true := ⟨gp_t6 (List.mem_of_getElem? (i := 81) rfl), rfl⟩
theorem tw_318 : (.static yX12_sign : Cond) ∈ lw_tbl ∧ goodWord (.static yX12_sign) = true := ⟨gp_t6 (List.mem_of_getElem? (i := 77) rfl), rfl⟩
theorem tw_319 : (.methodLink RX12 153 yX12_sign : Cond) ∈ lw_tbl ∧ goodWord (.methodLink RX12 153 yX12_sign) = true := ⟨gp_t6 (List.mem_of_getElem? (i := 76) rfl), rfl⟩
theorem tw_320 : (.code yX12_sign cX12_sign 2 (some .int) : Cond) ∈ lw_tbl ∧ goodWord (.code yX12_sign cX12_sign 2 (some .int)) = true := ⟨gp_t6 (List.mem_of_getElem? (i := 78) rfl), rfl⟩
theorem tw_321 : (.selects RX12 yX12_wallY yX12_wallY : Cond) ∈ lw_tbl ∧ goodWord (.selects RX12 yX12_wallY yX12_wallY) = true := ⟨List.mem_of_getElem? (i := 50) rfl, rfl⟩
theorem tw_322 : (.instanceMethod yX12_wallY : Cond) ∈ lw_tbl ∧ goodWord (.instanceMethod yX12_wallY) = true := ⟨gp_t6 (List.mem_of_getElem? (i := 74) rfl), rfl⟩
theorem tw_323 : (.methodLink RX12 149 yX12_wallY : Cond) ∈ lw_tbl ∧ goodWord (.methodLink RX12 149 yX12_wallY) = true := ⟨gp_t6 (List.mem_of_getElem? (i := 72) rfl), rfl⟩
theorem tw_324 : (.code yX12_wallY cX12_wallY 3 (some .long) : Cond) ∈ lw_tbl ∧ goodWord (.code yX12_wallY cX12_wallY 3 (some .long)) = true := ⟨gp_t6 (List.mem_of_getElem? (i := 75) rfl), rfl⟩
theorem tw_325 : (.code yX12_stops cX12_stops 33 (some .boolean) : Cond) ∈ lw_tbl ∧ goodWord (.code yX12_stops cX12_stops 33 (some .boolean)) = true := ⟨gp_t6 (List.mem_of_getElem? (i := 71) rfl), rfl⟩
theorem tw_326 : (.code yX12_stopping cX12_stopping 7 (some .int) : Cond) ∈ lw_tbl ∧ goodWord (.code yX12_stopping cX12_stopping 7 (some .int)) = true := ⟨gp_t6 (List.mem_of_getElem? (i := 67) rfl), rfl⟩
theorem tw_327 : (.selects RX12 yX12_meets yX12_meets : Cond) ∈ lw_tbl ∧ goodWord (.selects RX12 yX12_meets yX12_meets) = true := ⟨List.mem_of_getElem? (i := 47) rfl, rfl⟩
theorem tw_328 : (.instanceMethod yX12_meets : Cond) ∈ lw_tbl ∧ goodWord (.instanceMethod yX12_meets) = true := ⟨gp_t6 (List.mem_of_getElem? (i := 62) rfl), rfl⟩
theorem tw_329 : (.methodLink RX12 167 yX12_meets : Cond) ∈ lw_tbl ∧ goodWord (.methodLink RX12 167 yX12_meets) = true := ⟨gp_t6 (List.mem_of_getElem? (i := 60) rfl), rfl⟩
theorem tw_330 : (.fieldLink RX12 146 "GhostPaneModel" "meetY" "J" : Cond) ∈ lw_tbl ∧ goodWord (.fieldLink RX12 146 "GhostPaneModel" "meetY" "J") = true := ⟨gp_t6 (List.mem_of_getElem? (i := 153) rfl), rfl⟩
theorem tw_331 : (.fieldLink RX12 143 "GhostPaneModel" "meetX" "J" : Cond) ∈ lw_tbl ∧ goodWord (.fieldLink RX12 143 "GhostPaneModel" "meetX" "J") = true := ⟨gp_t6 (List.mem_of_getElem? (i := 152) rfl), rfl⟩
theorem tw_332 : (.fieldLink RX12 140 "GhostPaneModel" "meetBy" "J" : Cond) ∈ lw_tbl ∧ goodWord (.fieldLink RX12 140 "GhostPaneModel" "meetBy" "J") = true := ⟨gp_t6 (List.mem_of_getElem? (i := 154) rfl), rfl⟩
theorem tw_333 : (.fieldLink RX12 137 "GhostPaneModel" "meetAlong" "J" : Cond) ∈ lw_tbl ∧ goodWord (.fieldLink RX12 137 "GhostPaneModel" "meetAlong" "J") = true := ⟨gp_t6 (List.mem_of_getElem? (i := 155) rfl), rfl⟩
theorem tw_334 : (.fieldLink RX12 134 "GhostPaneModel" "goalY" "J" : Cond) ∈ lw_tbl ∧ goodWord (.fieldLink RX12 134 "GhostPaneModel" "goalY" "J") = true := ⟨gp_t6 (List.mem_of_getElem? (i := 151) rfl), rfl⟩
theorem tw_335 : (.fieldLink RX12 131 "GhostPaneModel" "goalX" "J" : Cond) ∈ lw_tbl ∧ goodWord (.fieldLink RX12 131 "GhostPaneModel" "goalX" "J") = true := ⟨gp_t6 (List.mem_of_getElem? (i := 150) rfl), rfl⟩
theorem tw_336 : (.fieldLink RX12 128 "GhostPaneModel" "eyeY" "J" : Cond) ∈ lw_tbl ∧ goodWord (.fieldLink RX12 128 "GhostPaneModel" "eyeY" "J") = true := ⟨gp_t6 (List.mem_of_getElem? (i := 149) rfl), rfl⟩
theorem tw_337 : (.fieldLink RX12 124 "GhostPaneModel" "eyeX" "J" : Cond) ∈ lw_tbl ∧ goodWord (.fieldLink RX12 124 "GhostPaneModel" "eyeX" "J") = true := ⟨gp_t6 (List.mem_of_getElem? (i := 148) rfl), rfl⟩
theorem tw_338 : (.code yX12_meets cX12_meets 24 (some .boolean) : Cond) ∈ lw_tbl ∧ goodWord (.code yX12_meets cX12_meets 24 (some .boolean)) = true := ⟨gp_t6 (List.mem_of_getElem? (i := 63) rfl), rfl⟩
theorem tw_339 : (.code yX12_seesIt cX12_seesIt 6 (some .boolean) : Cond) ∈ lw_tbl ∧ goodWord (.code yX12_seesIt cX12_seesIt 6 (some .boolean)) = true := ⟨gp_t6 (List.mem_of_getElem? (i := 59) rfl), rfl⟩
theorem tw_340 : (.code yX12_sees cX12_sees 4 (some .int) : Cond) ∈ lw_tbl ∧ goodWord (.code yX12_sees cX12_sees 4 (some .int)) = true := ⟨gp_t6 (List.mem_of_getElem? (i := 55) rfl), rfl⟩
theorem tw_341 : (.selects RX12 yX12_sees yX12_sees : Cond) ∈ lw_tbl ∧ goodWord (.selects RX12 yX12_sees yX12_sees) = true := ⟨gp_t6 (List.mem_of_getElem? (i := 54) rfl), rfl⟩
theorem tw_342 : (.instanceMethod yX12_sees : Cond) ∈ lw_tbl ∧ goodWord (.instanceMethod yX12_sees) = true := ⟨gp_t6 (List.mem_of_getElem? (i := 53) rfl), rfl⟩
theorem tw_343 : (.methodLink RL 65 yX12_sees : Cond) ∈ lw_tbl ∧ goodWord (.methodLink RL 65 yX12_sees) = true := ⟨gp_t6 (List.mem_of_getElem? (i := 52) rfl), rfl⟩
theorem tw_344 : (.selects RX3 yX3_thousandth yX3_thousandth : Cond) ∈ lw_tbl ∧ goodWord (.selects RX3 yX3_thousandth yX3_thousandth) = true := ⟨gp_t3 (List.mem_of_getElem? (i := 151) rfl), rfl⟩
theorem tw_345 : (.instanceMethod yX3_thousandth : Cond) ∈ lw_tbl ∧ goodWord (.instanceMethod yX3_thousandth) = true := ⟨gp_t3 (List.mem_of_getElem? (i := 150) rfl), rfl⟩
theorem tw_346 : (.methodLink RX11 206 yX3_thousandth : Cond) ∈ lw_tbl ∧ goodWord (.methodLink RX11 206 yX3_thousandth) = true := ⟨gp_t3 (List.mem_of_getElem? (i := 149) rfl), rfl⟩
theorem tw_347 : (.constantLong RX3 79 1000 : Cond) ∈ lw_tbl ∧ goodWord (.constantLong RX3 79 1000) = true := ⟨gp_t3 (List.mem_of_getElem? (i := 153) rfl), rfl⟩
theorem tw_348 : (.code yX3_thousandth cX3_thousandth 1 (some .int) : Cond) ∈ lw_tbl ∧ goodWord (.code yX3_thousandth cX3_thousandth 1 (some .int)) = true := ⟨gp_t3 (List.mem_of_getElem? (i := 152) rfl), rfl⟩
theorem tw_349 : (.selects RX11 yX11_meetsPane yX11_meetsPane : Cond) ∈ lw_tbl ∧ goodWord (.selects RX11 yX11_meetsPane yX11_meetsPane) = true := ⟨List.mem_of_getElem? (i := 4) rfl, rfl⟩
theorem tw_350 : (.instanceMethod yX11_meetsPane : Cond) ∈ lw_tbl ∧ goodWord (.instanceMethod yX11_meetsPane) = true := ⟨gp_t3 (List.mem_of_getElem? (i := 146) rfl), rfl⟩
theorem tw_351 : (.methodLink RX11 203 yX11_meetsPane : Cond) ∈ lw_tbl ∧ goodWord (.methodLink RX11 203 yX11_meetsPane) = true := ⟨gp_t3 (List.mem_of_getElem? (i := 144) rfl), rfl⟩
theorem tw_352 : (.methodLink RX11 372 yX3_meets : Cond) ∈ lw_tbl ∧ goodWord (.methodLink RX11 372 yX3_meets) = true := ⟨gp_t3 (List.mem_of_getElem? (i := 148) rfl), rfl⟩
theorem tw_353 : (.code yX11_meetsPane cX11_meetsPane 4 (some .boolean) : Cond) ∈ lw_tbl ∧ goodWord (.code yX11_meetsPane cX11_meetsPane 4 (some .boolean)) = true := ⟨gp_t3 (List.mem_of_getElem? (i := 147) rfl), rfl⟩
theorem tw_354 : (.code yX11_where cX11_where 4 (some .int) : Cond) ∈ lw_tbl ∧ goodWord (.code yX11_where cX11_where 4 (some .int)) = true := ⟨gp_t3 (List.mem_of_getElem? (i := 143) rfl), rfl⟩
theorem tw_355 : (.selects RX11 yX11_where yX11_where : Cond) ∈ lw_tbl ∧ goodWord (.selects RX11 yX11_where yX11_where) = true := ⟨gp_t3 (List.mem_of_getElem? (i := 142) rfl), rfl⟩
theorem tw_356 : (.instanceMethod yX11_where : Cond) ∈ lw_tbl ∧ goodWord (.instanceMethod yX11_where) = true := ⟨gp_t3 (List.mem_of_getElem? (i := 141) rfl), rfl⟩
theorem tw_357 : (.methodLink RL 66 yX11_where : Cond) ∈ lw_tbl ∧ goodWord (.methodLink RL 66 yX11_where) = true := ⟨gp_t3 (List.mem_of_getElem? (i := 140) rfl), rfl⟩
theorem tw_358 : (.selects RX12 yX12_whereMet yX12_whereMet : Cond) ∈ lw_tbl ∧ goodWord (.selects RX12 yX12_whereMet yX12_whereMet) = true := ⟨List.mem_of_getElem? (i := 51) rfl, rfl⟩
theorem tw_359 : (.instanceMethod yX12_whereMet : Cond) ∈ lw_tbl ∧ goodWord (.instanceMethod yX12_whereMet) = true := ⟨gp_t6 (List.mem_of_getElem? (i := 91) rfl), rfl⟩
theorem tw_360 : (.methodLink RX12 179 yX12_whereMet : Cond) ∈ lw_tbl ∧ goodWord (.methodLink RX12 179 yX12_whereMet) = true := ⟨gp_t6 (List.mem_of_getElem? (i := 89) rfl), rfl⟩
theorem tw_361 : (.constantLong RX12 177 1000 : Cond) ∈ lw_tbl ∧ goodWord (.constantLong RX12 177 1000) = true := ⟨gp_t6 (List.mem_of_getElem? (i := 93) rfl), rfl⟩
theorem tw_362 : (.code yX12_whereMet cX12_whereMet 1 (some .int) : Cond) ∈ lw_tbl ∧ goodWord (.code yX12_whereMet cX12_whereMet 1 (some .int)) = true := ⟨gp_t6 (List.mem_of_getElem? (i := 92) rfl), rfl⟩
theorem tw_363 : (.code yX12_where cX12_where 4 (some .int) : Cond) ∈ lw_tbl ∧ goodWord (.code yX12_where cX12_where 4 (some .int)) = true := ⟨gp_t6 (List.mem_of_getElem? (i := 88) rfl), rfl⟩
theorem tw_364 : (.selects RX12 yX12_where yX12_where : Cond) ∈ lw_tbl ∧ goodWord (.selects RX12 yX12_where yX12_where) = true := ⟨gp_t6 (List.mem_of_getElem? (i := 87) rfl), rfl⟩
theorem tw_365 : (.instanceMethod yX12_where : Cond) ∈ lw_tbl ∧ goodWord (.instanceMethod yX12_where) = true := ⟨gp_t6 (List.mem_of_getElem? (i := 86) rfl), rfl⟩
theorem tw_366 : (.methodLink RL 69 yX12_where : Cond) ∈ lw_tbl ∧ goodWord (.methodLink RL 69 yX12_where) = true := ⟨gp_t6 (List.mem_of_getElem? (i := 85) rfl), rfl⟩
theorem tw_367 : (.selects RX3 yX3_blockers yX3_blockers : Cond) ∈ lw_tbl ∧ goodWord (.selects RX3 yX3_blockers yX3_blockers) = true := ⟨gp_t3 (List.mem_of_getElem? (i := 160) rfl), rfl⟩
theorem tw_368 : (.instanceMethod yX3_blockers : Cond) ∈ lw_tbl ∧ goodWord (.instanceMethod yX3_blockers) = true := ⟨gp_t3 (List.mem_of_getElem? (i := 159) rfl), rfl⟩
theorem tw_369 : (.methodLink RX11 210 yX3_blockers : Cond) ∈ lw_tbl ∧ goodWord (.methodLink RX11 210 yX3_blockers) = true := ⟨gp_t3 (List.mem_of_getElem? (i := 158) rfl), rfl⟩
theorem tw_370 : (.code yX3_blockers cX3_blockers 7 (some .int) : Cond) ∈ lw_tbl ∧ goodWord (.code yX3_blockers cX3_blockers 7 (some .int)) = true := ⟨gp_t3 (List.mem_of_getElem? (i := 161) rfl), rfl⟩
theorem tw_371 : (.code yX11_blocks cX11_blocks 5 (some .int) : Cond) ∈ lw_tbl ∧ goodWord (.code yX11_blocks cX11_blocks 5 (some .int)) = true := ⟨gp_t3 (List.mem_of_getElem? (i := 157) rfl), rfl⟩
theorem tw_372 : (.selects RX11 yX11_blocks yX11_blocks : Cond) ∈ lw_tbl ∧ goodWord (.selects RX11 yX11_blocks yX11_blocks) = true := ⟨gp_t3 (List.mem_of_getElem? (i := 156) rfl), rfl⟩
theorem tw_373 : (.instanceMethod yX11_blocks : Cond) ∈ lw_tbl ∧ goodWord (.instanceMethod yX11_blocks) = true := ⟨gp_t3 (List.mem_of_getElem? (i := 155) rfl), rfl⟩
theorem tw_374 : (.methodLink RL 70 yX11_blocks : Cond) ∈ lw_tbl ∧ goodWord (.methodLink RL 70 yX11_blocks) = true := ⟨gp_t3 (List.mem_of_getElem? (i := 154) rfl), rfl⟩
theorem tw_375 : (.code yX12_blocks cX12_blocks 5 (some .int) : Cond) ∈ lw_tbl ∧ goodWord (.code yX12_blocks cX12_blocks 5 (some .int)) = true := ⟨gp_t6 (List.mem_of_getElem? (i := 97) rfl), rfl⟩
theorem tw_376 : (.selects RX12 yX12_blocks yX12_blocks : Cond) ∈ lw_tbl ∧ goodWord (.selects RX12 yX12_blocks yX12_blocks) = true := ⟨gp_t6 (List.mem_of_getElem? (i := 96) rfl), rfl⟩
theorem tw_377 : (.instanceMethod yX12_blocks : Cond) ∈ lw_tbl ∧ goodWord (.instanceMethod yX12_blocks) = true := ⟨gp_t6 (List.mem_of_getElem? (i := 95) rfl), rfl⟩
theorem tw_378 : (.methodLink RL 74 yX12_blocks : Cond) ∈ lw_tbl ∧ goodWord (.methodLink RL 74 yX12_blocks) = true := ⟨gp_t6 (List.mem_of_getElem? (i := 94) rfl), rfl⟩
theorem tw_379 : (.selects RX8 yX8_wallShows yX8_wallShows : Cond) ∈ lw_tbl ∧ goodWord (.selects RX8 yX8_wallShows yX8_wallShows) = true := ⟨gp_t3 (List.mem_of_getElem? (i := 172) rfl), rfl⟩
theorem tw_380 : (.instanceMethod yX8_wallShows : Cond) ∈ lw_tbl ∧ goodWord (.instanceMethod yX8_wallShows) = true := ⟨gp_t3 (List.mem_of_getElem? (i := 171) rfl), rfl⟩
theorem tw_381 : (.methodLink RX11 217 yX8_wallShows : Cond) ∈ lw_tbl ∧ goodWord (.methodLink RX11 217 yX8_wallShows) = true := ⟨gp_t3 (List.mem_of_getElem? (i := 170) rfl), rfl⟩
theorem tw_382 : (.methodLink RX8 71 yX8_eyeSees : Cond) ∈ lw_tbl ∧ goodWord (.methodLink RX8 71 yX8_eyeSees) = true := ⟨gp_t3 (List.mem_of_getElem? (i := 174) rfl), rfl⟩
theorem tw_383 : (.fieldLink RX8 67 "GhostPane$Glass" "ends2" "[[J" : Cond) ∈ lw_tbl ∧ goodWord (.fieldLink RX8 67 "GhostPane$Glass" "ends2" "[[J") = true := ⟨gp_t2 (List.mem_of_getElem? (i := 74) rfl), rfl⟩
theorem tw_384 : (.code yX8_wallShows cX8_wallShows 4 (some .boolean) : Cond) ∈ lw_tbl ∧ goodWord (.code yX8_wallShows cX8_wallShows 4 (some .boolean)) = true := ⟨gp_t3 (List.mem_of_getElem? (i := 173) rfl), rfl⟩
theorem tw_385 : (.selects RX7 yX7_hasWall yX7_hasWall : Cond) ∈ lw_tbl ∧ goodWord (.selects RX7 yX7_hasWall yX7_hasWall) = true := ⟨gp_t3 (List.mem_of_getElem? (i := 168) rfl), rfl⟩
theorem tw_386 : (.instanceMethod yX7_hasWall : Cond) ∈ lw_tbl ∧ goodWord (.instanceMethod yX7_hasWall) = true := ⟨gp_t3 (List.mem_of_getElem? (i := 167) rfl), rfl⟩
theorem tw_387 : (.methodLink RX11 214 yX7_hasWall : Cond) ∈ lw_tbl ∧ goodWord (.methodLink RX11 214 yX7_hasWall) = true := ⟨gp_t3 (List.mem_of_getElem? (i := 166) rfl), rfl⟩
theorem tw_388 : (.fieldLink RX7 56 "GhostPane$Room" "wallThere" "[Z" : Cond) ∈ lw_tbl ∧ goodWord (.fieldLink RX7 56 "GhostPane$Room" "wallThere" "[Z") = true := ⟨gp_t2 (List.mem_of_getElem? (i := 0) rfl), rfl⟩
theorem tw_389 : (.code yX7_hasWall cX7_hasWall 2 (some .boolean) : Cond) ∈ lw_tbl ∧ goodWord (.code yX7_hasWall cX7_hasWall 2 (some .boolean)) = true := ⟨gp_t3 (List.mem_of_getElem? (i := 169) rfl), rfl⟩
theorem tw_390 : (.code yX11_shows cX11_shows 3 (some .int) : Cond) ∈ lw_tbl ∧ goodWord (.code yX11_shows cX11_shows 3 (some .int)) = true := ⟨gp_t3 (List.mem_of_getElem? (i := 165) rfl), rfl⟩
theorem tw_391 : (.selects RX11 yX11_shows yX11_shows : Cond) ∈ lw_tbl ∧ goodWord (.selects RX11 yX11_shows yX11_shows) = true := ⟨gp_t3 (List.mem_of_getElem? (i := 164) rfl), rfl⟩
theorem tw_392 : (.instanceMethod yX11_shows : Cond) ∈ lw_tbl ∧ goodWord (.instanceMethod yX11_shows) = true := ⟨gp_t3 (List.mem_of_getElem? (i := 163) rfl), rfl⟩
theorem tw_393 : (.methodLink RL 75 yX11_shows : Cond) ∈ lw_tbl ∧ goodWord (.methodLink RL 75 yX11_shows) = true := ⟨gp_t3 (List.mem_of_getElem? (i := 162) rfl), rfl⟩
theorem tw_394 : (.selects RX12 yX12_showsTo yX12_showsTo : Cond) ∈ lw_tbl ∧ goodWord (.selects RX12 yX12_showsTo yX12_showsTo) = true := ⟨List.mem_of_getElem? (i := 52) rfl, rfl⟩
theorem tw_395 : (.instanceMethod yX12_showsTo : Cond) ∈ lw_tbl ∧ goodWord (.instanceMethod yX12_showsTo) = true := ⟨gp_t6 (List.mem_of_getElem? (i := 104) rfl), rfl⟩
theorem tw_396 : (.methodLink RX12 183 yX12_showsTo : Cond) ∈ lw_tbl ∧ goodWord (.methodLink RX12 183 yX12_showsTo) = true := ⟨gp_t6 (List.mem_of_getElem? (i := 102) rfl), rfl⟩
theorem tw_397 : (.code yX12_showsTo cX12_showsTo 11 (some .boolean) : Cond) ∈ lw_tbl ∧ goodWord (.code yX12_showsTo cX12_showsTo 11 (some .boolean)) = true := ⟨gp_t6 (List.mem_of_getElem? (i := 105) rfl), rfl⟩
theorem tw_398 : (.code yX12_shows cX12_shows 3 (some .int) : Cond) ∈ lw_tbl ∧ goodWord (.code yX12_shows cX12_shows 3 (some .int)) = true := ⟨gp_t6 (List.mem_of_getElem? (i := 101) rfl), rfl⟩
theorem tw_399 : (.selects RX12 yX12_shows yX12_shows : Cond) ∈ lw_tbl ∧ goodWord (.selects RX12 yX12_shows yX12_shows) = true := ⟨gp_t6 (List.mem_of_getElem? (i := 100) rfl), rfl⟩
theorem tw_400 : (.instanceMethod yX12_shows : Cond) ∈ lw_tbl ∧ goodWord (.instanceMethod yX12_shows) = true := ⟨gp_t6 (List.mem_of_getElem? (i := 99) rfl), rfl⟩
theorem tw_401 : (.methodLink RL 79 yX12_shows : Cond) ∈ lw_tbl ∧ goodWord (.methodLink RL 79 yX12_shows) = true := ⟨gp_t6 (List.mem_of_getElem? (i := 98) rfl), rfl⟩
theorem tw_402 : (.selects RX8 yX8_wallShowsToSome yX8_wallShowsToSome : Cond) ∈ lw_tbl ∧ goodWord (.selects RX8 yX8_wallShowsToSome yX8_wallShowsToSome) = true := ⟨gp_t3 (List.mem_of_getElem? (i := 181) rfl), rfl⟩
theorem tw_403 : (.instanceMethod yX8_wallShowsToSome : Cond) ∈ lw_tbl ∧ goodWord (.instanceMethod yX8_wallShowsToSome) = true := ⟨gp_t3 (List.mem_of_getElem? (i := 180) rfl), rfl⟩
theorem tw_404 : (.methodLink RX11 220 yX8_wallShowsToSome : Cond) ∈ lw_tbl ∧ goodWord (.methodLink RX11 220 yX8_wallShowsToSome) = true := ⟨gp_t3 (List.mem_of_getElem? (i := 179) rfl), rfl⟩
theorem tw_405 : (.methodLink RX8 79 yX8_wallShows : Cond) ∈ lw_tbl ∧ goodWord (.methodLink RX8 79 yX8_wallShows) = true := ⟨gp_t3 (List.mem_of_getElem? (i := 183) rfl), rfl⟩
theorem tw_406 : (.fieldLink RX8 75 "GhostPane$Room" "seatThere" "[Z" : Cond) ∈ lw_tbl ∧ goodWord (.fieldLink RX8 75 "GhostPane$Room" "seatThere" "[Z") = true := ⟨gp_t1 (List.mem_of_getElem? (i := 232) rfl), rfl⟩
theorem tw_407 : (.code yX8_wallShowsToSome cX8_wallShowsToSome 3 (some .boolean) : Cond) ∈ lw_tbl ∧ goodWord (.code yX8_wallShowsToSome cX8_wallShowsToSome 3 (some .boolean)) = true := ⟨gp_t3 (List.mem_of_getElem? (i := 182) rfl), rfl⟩
theorem tw_408 : (.code yX11_black cX11_black 3 (some .int) : Cond) ∈ lw_tbl ∧ goodWord (.code yX11_black cX11_black 3 (some .int)) = true := ⟨gp_t3 (List.mem_of_getElem? (i := 178) rfl), rfl⟩
theorem tw_409 : (.selects RX11 yX11_black yX11_black : Cond) ∈ lw_tbl ∧ goodWord (.selects RX11 yX11_black yX11_black) = true := ⟨gp_t3 (List.mem_of_getElem? (i := 177) rfl), rfl⟩
theorem tw_410 : (.instanceMethod yX11_black : Cond) ∈ lw_tbl ∧ goodWord (.instanceMethod yX11_black) = true := ⟨gp_t3 (List.mem_of_getElem? (i := 176) rfl), rfl⟩
theorem tw_411 : (.methodLink RL 80 yX11_black : Cond) ∈ lw_tbl ∧ goodWord (.methodLink RL 80 yX11_black) = true := ⟨gp_t3 (List.mem_of_getElem? (i := 175) rfl), rfl⟩
theorem tw_412 : (.code yX12_black cX12_black 4 (some .int) : Cond) ∈ lw_tbl ∧ goodWord (.code yX12_black cX12_black 4 (some .int)) = true := ⟨gp_t6 (List.mem_of_getElem? (i := 109) rfl), rfl⟩
theorem tw_413 : (.selects RX12 yX12_black yX12_black : Cond) ∈ lw_tbl ∧ goodWord (.selects RX12 yX12_black yX12_black) = true := ⟨gp_t6 (List.mem_of_getElem? (i := 108) rfl), rfl⟩
theorem tw_414 : (.instanceMethod yX12_black : Cond) ∈ lw_tbl ∧ goodWord (.instanceMethod yX12_black) = true := ⟨gp_t6 (List.mem_of_getElem? (i := 107) rfl), rfl⟩
theorem tw_415 : (.methodLink RL 84 yX12_black : Cond) ∈ lw_tbl ∧ goodWord (.methodLink RL 84 yX12_black) = true := ⟨gp_t6 (List.mem_of_getElem? (i := 106) rfl), rfl⟩
theorem tw_416 : (.fieldLink RX11 237 "GhostPane$Walk" "last" "I" : Cond) ∈ lw_tbl ∧ goodWord (.fieldLink RX11 237 "GhostPane$Walk" "last" "I") = true := ⟨gp_t1 (List.mem_of_getElem? (i := 156) rfl), rfl⟩
theorem tw_417 : (.selects RX10 yX10_perform yX10_perform : Cond) ∈ lw_tbl ∧ goodWord (.selects RX10 yX10_perform yX10_perform) = true := ⟨gp_t4 (List.mem_of_getElem? (i := 170) rfl), rfl⟩
theorem tw_418 : (.instanceMethod yX10_perform : Cond) ∈ lw_tbl ∧ goodWord (.instanceMethod yX10_perform) = true := ⟨gp_t4 (List.mem_of_getElem? (i := 169) rfl), rfl⟩
theorem tw_419 : (.methodLink RX11 233 yX10_perform : Cond) ∈ lw_tbl ∧ goodWord (.methodLink RX11 233 yX10_perform) = true := ⟨gp_t4 (List.mem_of_getElem? (i := 168) rfl), rfl⟩
theorem tw_420 : (.selects RX10 yX10_follow yX10_follow : Cond) ∈ lw_tbl ∧ goodWord (.selects RX10 yX10_follow yX10_follow) = true := ⟨List.mem_of_getElem? (i := 24) rfl, rfl⟩
theorem tw_421 : (.instanceMethod yX10_follow : Cond) ∈ lw_tbl ∧ goodWord (.instanceMethod yX10_follow) = true := ⟨gp_t4 (List.mem_of_getElem? (i := 175) rfl), rfl⟩
theorem tw_422 : (.methodLink RX10 41 yX10_follow : Cond) ∈ lw_tbl ∧ goodWord (.methodLink RX10 41 yX10_follow) = true := ⟨gp_t4 (List.mem_of_getElem? (i := 173) rfl), rfl⟩
theorem tw_423 : (.selects RX10 yX10_comeBack yX10_comeBack : Cond) ∈ lw_tbl ∧ goodWord (.selects RX10 yX10_comeBack yX10_comeBack) = true := ⟨List.mem_of_getElem? (i := 30) rfl, rfl⟩
theorem tw_424 : (.instanceMethod yX10_comeBack : Cond) ∈ lw_tbl ∧ goodWord (.instanceMethod yX10_comeBack) = true := ⟨gp_t4 (List.mem_of_getElem? (i := 202) rfl), rfl⟩
theorem tw_425 : (.methodLink RX10 67 yX10_comeBack : Cond) ∈ lw_tbl ∧ goodWord (.methodLink RX10 67 yX10_comeBack) = true := ⟨gp_t4 (List.mem_of_getElem? (i := 200) rfl), rfl⟩
theorem tw_426 : (.code yX10_comeBack cX10_comeBack 3 (some .int) : Cond) ∈ lw_tbl ∧ goodWord (.code yX10_comeBack cX10_comeBack 3 (some .int)) = true := ⟨gp_t4 (List.mem_of_getElem? (i := 203) rfl), rfl⟩
theorem tw_427 : (.selects RX10 yX10_enter yX10_enter : Cond) ∈ lw_tbl ∧ goodWord (.selects RX10 yX10_enter yX10_enter) = true := ⟨List.mem_of_getElem? (i := 29) rfl, rfl⟩
theorem tw_428 : (.instanceMethod yX10_enter : Cond) ∈ lw_tbl ∧ goodWord (.instanceMethod yX10_enter) = true := ⟨gp_t4 (List.mem_of_getElem? (i := 198) rfl), rfl⟩
theorem tw_429 : (.methodLink RX10 64 yX10_enter : Cond) ∈ lw_tbl ∧ goodWord (.methodLink RX10 64 yX10_enter) = true := ⟨gp_t4 (List.mem_of_getElem? (i := 196) rfl), rfl⟩
theorem tw_430 : (.fieldLink RX10 25 "GhostPane$Walk" "timesLeft" "[I" : Cond) ∈ lw_tbl ∧ goodWord (.fieldLink RX10 25 "GhostPane$Walk" "timesLeft" "[I") = true := ⟨gp_t1 (List.mem_of_getElem? (i := 167) rfl), rfl⟩
theorem tw_431 : (.fieldLink RX10 22 "GhostPane$Walk" "backTo" "[I" : Cond) ∈ lw_tbl ∧ goodWord (.fieldLink RX10 22 "GhostPane$Walk" "backTo" "[I") = true := ⟨gp_t1 (List.mem_of_getElem? (i := 166) rfl), rfl⟩
theorem tw_432 : (.code yX10_enter cX10_enter 3 none : Cond) ∈ lw_tbl ∧ goodWord (.code yX10_enter cX10_enter 3 none) = true := ⟨gp_t4 (List.mem_of_getElem? (i := 199) rfl), rfl⟩
theorem tw_433 : (.selects RX10 yX10_rise yX10_rise : Cond) ∈ lw_tbl ∧ goodWord (.selects RX10 yX10_rise yX10_rise) = true := ⟨List.mem_of_getElem? (i := 28) rfl, rfl⟩
theorem tw_434 : (.instanceMethod yX10_rise : Cond) ∈ lw_tbl ∧ goodWord (.instanceMethod yX10_rise) = true := ⟨gp_t4 (List.mem_of_getElem? (i := 194) rfl), rfl⟩
theorem tw_435 : (.methodLink RX10 61 yX10_rise : Cond) ∈ lw_tbl ∧ goodWord (.methodLink RX10 61 yX10_rise) = true := ⟨gp_t4 (List.mem_of_getElem? (i := 192) rfl), rfl⟩
theorem tw_436 : (.code yX10_rise cX10_rise 5 none : Cond) ∈ lw_tbl ∧ goodWord (.code yX10_rise cX10_rise 5 none) = true := ⟨gp_t4 (List.mem_of_getElem? (i := 195) rfl), rfl⟩
theorem tw_437 : (.selects RX10 yX10_goTo yX10_goTo : Cond) ∈ lw_tbl ∧ goodWord (.selects RX10 yX10_goTo yX10_goTo) = true := ⟨List.mem_of_getElem? (i := 26) rfl, rfl⟩
theorem tw_438 : (.instanceMethod yX10_goTo : Cond) ∈ lw_tbl ∧ goodWord (.instanceMethod yX10_goTo) = true := ⟨gp_t4 (List.mem_of_getElem? (i := 183) rfl), rfl⟩
theorem tw_439 : (.methodLink RX10 58 yX10_goTo : Cond) ∈ lw_tbl ∧ goodWord (.methodLink RX10 58 yX10_goTo) = true := ⟨gp_t4 (List.mem_of_getElem? (i := 181) rfl), rfl⟩
theorem tw_440 : (.selects RX10 yX10_addCount yX10_addCount : Cond) ∈ lw_tbl ∧ goodWord (.selects RX10 yX10_addCount yX10_addCount) = true := ⟨List.mem_of_getElem? (i := 27) rfl, rfl⟩
theorem tw_441 : (.instanceMethod yX10_addCount : Cond) ∈ lw_tbl ∧ goodWord (.instanceMethod yX10_addCount) = true := ⟨gp_t4 (List.mem_of_getElem? (i := 190) rfl), rfl⟩
theorem tw_442 : (.methodLink RX10 77 yX10_addCount : Cond) ∈ lw_tbl ∧ goodWord (.methodLink RX10 77 yX10_addCount) = true := ⟨gp_t4 (List.mem_of_getElem? (i := 188) rfl), rfl⟩
theorem tw_443 : (.code yX10_addCount cX10_addCount 3 none : Cond) ∈ lw_tbl ∧ goodWord (.code yX10_addCount cX10_addCount 3 none) = true := ⟨gp_t4 (List.mem_of_getElem? (i := 191) rfl), rfl⟩
theorem tw_444 : (.initialized RJ9 : Cond) ∈ lw_tbl ∧ goodWord (.initialized RJ9) = true := ⟨gp_t1 (List.mem_of_getElem? (i := 14) rfl), rfl⟩
theorem tw_445 : (.static yJ9_floorDiv_7cf53 : Cond) ∈ lw_tbl ∧ goodWord (.static yJ9_floorDiv_7cf53) = true := ⟨gp_t4 (List.mem_of_getElem? (i := 186) rfl), rfl⟩
theorem tw_446 : (.methodLink RX10 71 yJ9_floorDiv_7cf53 : Cond) ∈ lw_tbl ∧ goodWord (.methodLink RX10 71 yJ9_floorDiv_7cf53) = true := ⟨gp_t4 (List.mem_of_getElem? (i := 185) rfl), rfl⟩
theorem tw_447 : (.code yJ9_floorDiv_7cf53 cJ9_floorDiv_7cf53 3 (some .int) : Cond) ∈ lw_tbl ∧ goodWord (.code yJ9_floorDiv_7cf53 cJ9_floorDiv_7cf53 3 (some .int)) = true := ⟨gp_t4 (List.mem_of_getElem? (i := 187) rfl), rfl⟩
theorem tw_448 : (.code yX10_goTo cX10_goTo 5 none : Cond) ∈ lw_tbl ∧ goodWord (.code yX10_goTo cX10_goTo 5 none) = true := ⟨gp_t4 (List.mem_of_getElem? (i := 184) rfl), rfl⟩
theorem tw_449 : (.initialized RX10 : Cond) ∈ lw_tbl ∧ goodWord (.initialized RX10) = true := ⟨gp_t1 (List.mem_of_getElem? (i := 6) rfl), rfl⟩
theorem tw_450 : (.selects RX10 yX10_put yX10_put : Cond) ∈ lw_tbl ∧ goodWord (.selects RX10 yX10_put yX10_put) = true := ⟨List.mem_of_getElem? (i := 25) rfl, rfl⟩
theorem tw_451 : (.instanceMethod yX10_put : Cond) ∈ lw_tbl ∧ goodWord (.instanceMethod yX10_put) = true := ⟨gp_t4 (List.mem_of_getElem? (i := 179) rfl), rfl⟩
theorem tw_452 : (.methodLink RX10 54 yX10_put : Cond) ∈ lw_tbl ∧ goodWord (.methodLink RX10 54 yX10_put) = true := ⟨gp_t4 (List.mem_of_getElem? (i := 177) rfl), rfl⟩
theorem tw_453 : (.code yX10_put cX10_put 3 none : Cond) ∈ lw_tbl ∧ goodWord (.code yX10_put cX10_put 3 none) = true := ⟨gp_t4 (List.mem_of_getElem? (i := 180) rfl), rfl⟩
theorem tw_454 : (.fieldLink RX10 51 "GhostPane$Code" "kind" "[I" : Cond) ∈ lw_tbl ∧ goodWord (.fieldLink RX10 51 "GhostPane$Code" "kind" "[I") = true := ⟨gp_t1 (List.mem_of_getElem? (i := 79) rfl), rfl⟩
theorem tw_455 : (.fieldLink RX10 48 "GhostPane$Code" "second" "[I" : Cond) ∈ lw_tbl ∧ goodWord (.fieldLink RX10 48 "GhostPane$Code" "second" "[I") = true := ⟨gp_t1 (List.mem_of_getElem? (i := 83) rfl), rfl⟩
theorem tw_456 : (.fieldLink RX10 45 "GhostPane$Code" "first" "[I" : Cond) ∈ lw_tbl ∧ goodWord (.fieldLink RX10 45 "GhostPane$Code" "first" "[I") = true := ⟨gp_t1 (List.mem_of_getElem? (i := 81) rfl), rfl⟩
theorem tw_457 : (.code yX10_follow cX10_follow 5 (some .int) : Cond) ∈ lw_tbl ∧ goodWord (.code yX10_follow cX10_follow 5 (some .int)) = true := ⟨gp_t4 (List.mem_of_getElem? (i := 176) rfl), rfl⟩
theorem tw_458 : (.fieldLink RX10 36 "GhostPane$Code" "size" "I" : Cond) ∈ lw_tbl ∧ goodWord (.fieldLink RX10 36 "GhostPane$Code" "size" "I") = true := ⟨gp_t1 (List.mem_of_getElem? (i := 77) rfl), rfl⟩
theorem tw_459 : (.constant RX10 35 100000 : Cond) ∈ lw_tbl ∧ goodWord (.constant RX10 35 100000) = true := ⟨gp_t4 (List.mem_of_getElem? (i := 172) rfl), rfl⟩
theorem tw_460 : (.fieldLink RX10 32 "GhostPane$Walk" "frames" "I" : Cond) ∈ lw_tbl ∧ goodWord (.fieldLink RX10 32 "GhostPane$Walk" "frames" "I") = true := ⟨gp_t1 (List.mem_of_getElem? (i := 168) rfl), rfl⟩
theorem tw_461 : (.fieldLink RX10 18 "GhostPane$Walk" "lit" "[Z" : Cond) ∈ lw_tbl ∧ goodWord (.fieldLink RX10 18 "GhostPane$Walk" "lit" "[Z") = true := ⟨gp_t1 (List.mem_of_getElem? (i := 163) rfl), rfl⟩
theorem tw_462 : (.fieldLink RX10 15 "GhostPane$Walk" "height" "[I" : Cond) ∈ lw_tbl ∧ goodWord (.fieldLink RX10 15 "GhostPane$Walk" "height" "[I") = true := ⟨gp_t1 (List.mem_of_getElem? (i := 160) rfl), rfl⟩
theorem tw_463 : (.fieldLink RX10 9 "GhostPane$Walk" "spot" "[I" : Cond) ∈ lw_tbl ∧ goodWord (.fieldLink RX10 9 "GhostPane$Walk" "spot" "[I") = true := ⟨gp_t1 (List.mem_of_getElem? (i := 157) rfl), rfl⟩
theorem tw_464 : (.fieldLink RX10 28 "GhostPane$Walk" "last" "I" : Cond) ∈ lw_tbl ∧ goodWord (.fieldLink RX10 28 "GhostPane$Walk" "last" "I") = true := ⟨gp_t1 (List.mem_of_getElem? (i := 154) rfl), rfl⟩
theorem tw_465 : (.code yX10_perform cX10_perform 4 none : Cond) ∈ lw_tbl ∧ goodWord (.code yX10_perform cX10_perform 4 none) = true := ⟨gp_t4 (List.mem_of_getElem? (i := 171) rfl), rfl⟩
theorem tw_466 : (.fieldLink RX11 229 "GhostPane$Parser" "code" "LGhostPane$Code;" : Cond) ∈ lw_tbl ∧ goodWord (.fieldLink RX11 229 "GhostPane$Parser" "code" "LGhostPane$Code;") = true := ⟨gp_t1 (List.mem_of_getElem? (i := 129) rfl), rfl⟩
theorem tw_467 : (.fieldLink RX11 28 "GhostPane" "walk" "LGhostPane$Walk;" : Cond) ∈ lw_tbl ∧ goodWord (.fieldLink RX11 28 "GhostPane" "walk" "LGhostPane$Walk;") = true := ⟨gp_t2 (List.mem_of_getElem? (i := 225) rfl), rfl⟩
theorem tw_468 : (.fieldLink RX11 226 "GhostPane$Tape" "fault" "I" : Cond) ∈ lw_tbl ∧ goodWord (.fieldLink RX11 226 "GhostPane$Tape" "fault" "I") = true := ⟨gp_t1 (List.mem_of_getElem? (i := 38) rfl), rfl⟩
theorem tw_469 : (.selects RX6 yX6_parse yX6_parse : Cond) ∈ lw_tbl ∧ goodWord (.selects RX6 yX6_parse yX6_parse) = true := ⟨gp_t3 (List.mem_of_getElem? (i := 190) rfl), rfl⟩
theorem tw_470 : (.instanceMethod yX6_parse : Cond) ∈ lw_tbl ∧ goodWord (.instanceMethod yX6_parse) = true := ⟨gp_t3 (List.mem_of_getElem? (i := 189) rfl), rfl⟩
theorem tw_471 : (.methodLink RX11 223 yX6_parse : Cond) ∈ lw_tbl ∧ goodWord (.methodLink RX11 223 yX6_parse) = true := ⟨gp_t3 (List.mem_of_getElem? (i := 188) rfl), rfl⟩
theorem tw_472 : (.selects RX6 yX6_close yX6_close : Cond) ∈ lw_tbl ∧ goodWord (.selects RX6 yX6_close yX6_close) = true := ⟨List.mem_of_getElem? (i := 6) rfl, rfl⟩
theorem tw_473 : (.instanceMethod yX6_close : Cond) ∈ lw_tbl ∧ goodWord (.instanceMethod yX6_close) = true := ⟨gp_t3 (List.mem_of_getElem? (i := 222) rfl), rfl⟩
theorem tw_474 : (.methodLink RX6 59 yX6_close : Cond) ∈ lw_tbl ∧ goodWord (.methodLink RX6 59 yX6_close) = true := ⟨gp_t3 (List.mem_of_getElem? (i := 220) rfl), rfl⟩
theorem tw_475 : (.selects RX6 yX6_closeFigure yX6_closeFigure : Cond) ∈ lw_tbl ∧ goodWord (.selects RX6 yX6_closeFigure yX6_closeFigure) = true := ⟨List.mem_of_getElem? (i := 7) rfl, rfl⟩
theorem tw_476 : (.instanceMethod yX6_closeFigure : Cond) ∈ lw_tbl ∧ goodWord (.instanceMethod yX6_closeFigure) = true := ⟨gp_t3 (List.mem_of_getElem? (i := 230) rfl), rfl⟩
theorem tw_477 : (.methodLink RX6 202 yX6_closeFigure : Cond) ∈ lw_tbl ∧ goodWord (.methodLink RX6 202 yX6_closeFigure) = true := ⟨gp_t3 (List.mem_of_getElem? (i := 228) rfl), rfl⟩
theorem tw_478 : (.selects RX2 yX2_pointPast yX2_pointPast : Cond) ∈ lw_tbl ∧ goodWord (.selects RX2 yX2_pointPast yX2_pointPast) = true := ⟨gp_t3 (List.mem_of_getElem? (i := 234) rfl), rfl⟩
theorem tw_479 : (.instanceMethod yX2_pointPast : Cond) ∈ lw_tbl ∧ goodWord (.instanceMethod yX2_pointPast) = true := ⟨gp_t3 (List.mem_of_getElem? (i := 233) rfl), rfl⟩
theorem tw_480 : (.methodLink RX6 209 yX2_pointPast : Cond) ∈ lw_tbl ∧ goodWord (.methodLink RX6 209 yX2_pointPast) = true := ⟨gp_t3 (List.mem_of_getElem? (i := 232) rfl), rfl⟩
theorem tw_481 : (.code yX2_pointPast cX2_pointPast 2 none : Cond) ∈ lw_tbl ∧ goodWord (.code yX2_pointPast cX2_pointPast 2 none) = true := ⟨gp_t3 (List.mem_of_getElem? (i := 235) rfl), rfl⟩
theorem tw_482 : (.code yX6_closeFigure cX6_closeFigure 2 none : Cond) ∈ lw_tbl ∧ goodWord (.code yX6_closeFigure cX6_closeFigure 2 none) = true := ⟨gp_t3 (List.mem_of_getElem? (i := 231) rfl), rfl⟩
theorem tw_483 : (.selects RX6 yX6_closeRepeat yX6_closeRepeat : Cond) ∈ lw_tbl ∧ goodWord (.selects RX6 yX6_closeRepeat yX6_closeRepeat) = true := ⟨List.mem_of_getElem? (i := 8) rfl, rfl⟩
theorem tw_484 : (.instanceMethod yX6_closeRepeat : Cond) ∈ lw_tbl ∧ goodWord (.instanceMethod yX6_closeRepeat) = true := ⟨gp_t3 (List.mem_of_getElem? (i := 238) rfl), rfl⟩
theorem tw_485 : (.methodLink RX6 206 yX6_closeRepeat : Cond) ∈ lw_tbl ∧ goodWord (.methodLink RX6 206 yX6_closeRepeat) = true := ⟨gp_t3 (List.mem_of_getElem? (i := 236) rfl), rfl⟩
theorem tw_486 : (.code yX6_closeRepeat cX6_closeRepeat 2 none : Cond) ∈ lw_tbl ∧ goodWord (.code yX6_closeRepeat cX6_closeRepeat 2 none) = true := ⟨gp_t3 (List.mem_of_getElem? (i := 239) rfl), rfl⟩
theorem tw_487 : (.fieldLink RX6 199 "GhostPane$Body" "times" "I" : Cond) ∈ lw_tbl ∧ goodWord (.fieldLink RX6 199 "GhostPane$Body" "times" "I") = true := ⟨gp_t1 (List.mem_of_getElem? (i := 104) rfl), rfl⟩
theorem tw_488 : (.code yX6_close cX6_close 2 none : Cond) ∈ lw_tbl ∧ goodWord (.code yX6_close cX6_close 2 none) = true := ⟨gp_t3 (List.mem_of_getElem? (i := 223) rfl), rfl⟩
theorem tw_489 : (.methodLink RX6 55 yX9_takesSign : Cond) ∈ lw_tbl ∧ goodWord (.methodLink RX6 55 yX9_takesSign) = true := ⟨gp_t3 (List.mem_of_getElem? (i := 216) rfl), rfl⟩
theorem tw_490 : (.selects RX6 yX6_tell yX6_tell : Cond) ∈ lw_tbl ∧ goodWord (.selects RX6 yX6_tell yX6_tell) = true := ⟨List.mem_of_getElem? (i := 10) rfl, rfl⟩
theorem tw_491 : (.instanceMethod yX6_tell : Cond) ∈ lw_tbl ∧ goodWord (.instanceMethod yX6_tell) = true := ⟨gp_t4 (List.mem_of_getElem? (i := 24) rfl), rfl⟩
theorem tw_492 : (.methodLink RX6 62 yX6_tell : Cond) ∈ lw_tbl ∧ goodWord (.methodLink RX6 62 yX6_tell) = true := ⟨gp_t4 (List.mem_of_getElem? (i := 22) rfl), rfl⟩
theorem tw_493 : (.selects RX6 yX6_tellGo yX6_tellGo : Cond) ∈ lw_tbl ∧ goodWord (.selects RX6 yX6_tellGo yX6_tellGo) = true := ⟨List.mem_of_getElem? (i := 15) rfl, rfl⟩
theorem tw_494 : (.instanceMethod yX6_tellGo : Cond) ∈ lw_tbl ∧ goodWord (.instanceMethod yX6_tellGo) = true := ⟨gp_t4 (List.mem_of_getElem? (i := 106) rfl), rfl⟩
theorem tw_495 : (.methodLink RX6 101 yX6_tellGo : Cond) ∈ lw_tbl ∧ goodWord (.methodLink RX6 101 yX6_tellGo) = true := ⟨gp_t4 (List.mem_of_getElem? (i := 104) rfl), rfl⟩
theorem tw_496 : (.code yX6_tellGo cX6_tellGo 2 none : Cond) ∈ lw_tbl ∧ goodWord (.code yX6_tellGo cX6_tellGo 2 none) = true := ⟨gp_t4 (List.mem_of_getElem? (i := 107) rfl), rfl⟩
theorem tw_497 : (.selects RX6 yX6_tellRise yX6_tellRise : Cond) ∈ lw_tbl ∧ goodWord (.selects RX6 yX6_tellRise yX6_tellRise) = true := ⟨List.mem_of_getElem? (i := 17) rfl, rfl⟩
theorem tw_498 : (.instanceMethod yX6_tellRise : Cond) ∈ lw_tbl ∧ goodWord (.instanceMethod yX6_tellRise) = true := ⟨gp_t4 (List.mem_of_getElem? (i := 124) rfl), rfl⟩
theorem tw_499 : (.methodLink RX6 112 yX6_tellRise : Cond) ∈ lw_tbl ∧ goodWord (.methodLink RX6 112 yX6_tellRise) = true := ⟨gp_t4 (List.mem_of_getElem? (i := 122) rfl), rfl⟩
theorem tw_500 : (.selects RX6 yX6_tellCounts yX6_tellCounts : Cond) ∈ lw_tbl ∧ goodWord (.selects RX6 yX6_tellCounts yX6_tellCounts) = true := ⟨List.mem_of_getElem? (i := 16) rfl, rfl⟩
theorem tw_501 : (.instanceMethod yX6_tellCounts : Cond) ∈ lw_tbl ∧ goodWord (.instanceMethod yX6_tellCounts) = true := ⟨gp_t4 (List.mem_of_getElem? (i := 118) rfl), rfl⟩
theorem tw_502 : (.methodLink RX6 106 yX6_tellCounts : Cond) ∈ lw_tbl ∧ goodWord (.methodLink RX6 106 yX6_tellCounts) = true := ⟨gp_t4 (List.mem_of_getElem? (i := 116) rfl), rfl⟩
theorem tw_503 : (.code yX6_tellCounts cX6_tellCounts 4 none : Cond) ∈ lw_tbl ∧ goodWord (.code yX6_tellCounts cX6_tellCounts 4 none) = true := ⟨gp_t4 (List.mem_of_getElem? (i := 119) rfl), rfl⟩
theorem tw_504 : (.code yX6_tellRise cX6_tellRise 2 none : Cond) ∈ lw_tbl ∧ goodWord (.code yX6_tellRise cX6_tellRise 2 none) = true := ⟨gp_t4 (List.mem_of_getElem? (i := 125) rfl), rfl⟩
theorem tw_505 : (.selects RX6 yX6_tellLight yX6_tellLight : Cond) ∈ lw_tbl ∧ goodWord (.selects RX6 yX6_tellLight yX6_tellLight) = true := ⟨List.mem_of_getElem? (i := 18) rfl, rfl⟩
theorem tw_506 : (.instanceMethod yX6_tellLight : Cond) ∈ lw_tbl ∧ goodWord (.instanceMethod yX6_tellLight) = true := ⟨gp_t4 (List.mem_of_getElem? (i := 129) rfl), rfl⟩
theorem tw_507 : (.methodLink RX6 117 yX6_tellLight : Cond) ∈ lw_tbl ∧ goodWord (.methodLink RX6 117 yX6_tellLight) = true := ⟨gp_t4 (List.mem_of_getElem? (i := 127) rfl), rfl⟩
theorem tw_508 : (.selects RX6 yX6_tellPut yX6_tellPut : Cond) ∈ lw_tbl ∧ goodWord (.selects RX6 yX6_tellPut yX6_tellPut) = true := ⟨List.mem_of_getElem? (i := 14) rfl, rfl⟩
theorem tw_509 : (.instanceMethod yX6_tellPut : Cond) ∈ lw_tbl ∧ goodWord (.instanceMethod yX6_tellPut) = true := ⟨gp_t4 (List.mem_of_getElem? (i := 101) rfl), rfl⟩
theorem tw_510 : (.methodLink RX6 96 yX6_tellPut : Cond) ∈ lw_tbl ∧ goodWord (.methodLink RX6 96 yX6_tellPut) = true := ⟨gp_t4 (List.mem_of_getElem? (i := 99) rfl), rfl⟩
theorem tw_511 : (.code yX6_tellPut cX6_tellPut 3 none : Cond) ∈ lw_tbl ∧ goodWord (.code yX6_tellPut cX6_tellPut 3 none) = true := ⟨gp_t4 (List.mem_of_getElem? (i := 102) rfl), rfl⟩
theorem tw_512 : (.selects RX9 yX9_needWord yX9_needWord : Cond) ∈ lw_tbl ∧ goodWord (.selects RX9 yX9_needWord yX9_needWord) = true := ⟨gp_t4 (List.mem_of_getElem? (i := 111) rfl), rfl⟩
theorem tw_513 : (.instanceMethod yX9_needWord : Cond) ∈ lw_tbl ∧ goodWord (.instanceMethod yX9_needWord) = true := ⟨gp_t4 (List.mem_of_getElem? (i := 110) rfl), rfl⟩
theorem tw_514 : (.methodLink RX6 155 yX9_needWord : Cond) ∈ lw_tbl ∧ goodWord (.methodLink RX6 155 yX9_needWord) = true := ⟨gp_t4 (List.mem_of_getElem? (i := 109) rfl), rfl⟩
theorem tw_515 : (.methodLink RX9 64 yX9_isWord : Cond) ∈ lw_tbl ∧ goodWord (.methodLink RX9 64 yX9_isWord) = true := ⟨gp_t4 (List.mem_of_getElem? (i := 114) rfl), rfl⟩
theorem tw_516 : (.methodLink RX9 61 yX9_readWord : Cond) ∈ lw_tbl ∧ goodWord (.methodLink RX9 61 yX9_readWord) = true := ⟨gp_t4 (List.mem_of_getElem? (i := 113) rfl), rfl⟩
theorem tw_517 : (.code yX9_needWord cX9_needWord 3 none : Cond) ∈ lw_tbl ∧ goodWord (.code yX9_needWord cX9_needWord 3 none) = true := ⟨gp_t4 (List.mem_of_getElem? (i := 112) rfl), rfl⟩
theorem tw_518 : (.code yX6_tellLight cX6_tellLight 1 none : Cond) ∈ lw_tbl ∧ goodWord (.code yX6_tellLight cX6_tellLight 1 none) = true := ⟨gp_t4 (List.mem_of_getElem? (i := 130) rfl), rfl⟩
theorem tw_519 : (.selects RX6 yX6_tellDo yX6_tellDo : Cond) ∈ lw_tbl ∧ goodWord (.selects RX6 yX6_tellDo yX6_tellDo) = true := ⟨List.mem_of_getElem? (i := 19) rfl, rfl⟩
theorem tw_520 : (.instanceMethod yX6_tellDo : Cond) ∈ lw_tbl ∧ goodWord (.instanceMethod yX6_tellDo) = true := ⟨gp_t4 (List.mem_of_getElem? (i := 136) rfl), rfl⟩
theorem tw_521 : (.methodLink RX6 122 yX6_tellDo : Cond) ∈ lw_tbl ∧ goodWord (.methodLink RX6 122 yX6_tellDo) = true := ⟨gp_t4 (List.mem_of_getElem? (i := 134) rfl), rfl⟩
theorem tw_522 : (.selects RX6 yX6_put yX6_put : Cond) ∈ lw_tbl ∧ goodWord (.selects RX6 yX6_put yX6_put) = true := ⟨List.mem_of_getElem? (i := 9) rfl, rfl⟩
theorem tw_523 : (.instanceMethod yX6_put : Cond) ∈ lw_tbl ∧ goodWord (.instanceMethod yX6_put) = true := ⟨gp_t4 (List.mem_of_getElem? (i := 2) rfl), rfl⟩
theorem tw_524 : (.methodLink RX6 138 yX6_put : Cond) ∈ lw_tbl ∧ goodWord (.methodLink RX6 138 yX6_put) = true := ⟨gp_t4 (List.mem_of_getElem? (i := 0) rfl), rfl⟩
theorem tw_525 : (.selects RX0 yX0_put yX0_put : Cond) ∈ lw_tbl ∧ goodWord (.selects RX0 yX0_put yX0_put) = true := ⟨gp_t4 (List.mem_of_getElem? (i := 6) rfl), rfl⟩
theorem tw_526 : (.instanceMethod yX0_put : Cond) ∈ lw_tbl ∧ goodWord (.instanceMethod yX0_put) = true := ⟨gp_t4 (List.mem_of_getElem? (i := 5) rfl), rfl⟩
theorem tw_527 : (.methodLink RX6 148 yX0_put : Cond) ∈ lw_tbl ∧ goodWord (.methodLink RX6 148 yX0_put) = true := ⟨gp_t4 (List.mem_of_getElem? (i := 4) rfl), rfl⟩
theorem tw_528 : (.code yX0_put cX0_put 3 none : Cond) ∈ lw_tbl ∧ goodWord (.code yX0_put cX0_put 3 none) = true := ⟨gp_t4 (List.mem_of_getElem? (i := 7) rfl), rfl⟩
theorem tw_529 : (.code yX6_put cX6_put 3 none : Cond) ∈ lw_tbl ∧ goodWord (.code yX6_put cX6_put 3 none) = true := ⟨gp_t4 (List.mem_of_getElem? (i := 3) rfl), rfl⟩
theorem tw_530 : (.fieldLink RX6 175 "GhostPane$Body" "light" "I" : Cond) ∈ lw_tbl ∧ goodWord (.fieldLink RX6 175 "GhostPane$Body" "light" "I") = true := ⟨gp_t1 (List.mem_of_getElem? (i := 110) rfl), rfl⟩
theorem tw_531 : (.fieldLink RX6 172 "GhostPane$Body" "spot" "I" : Cond) ∈ lw_tbl ∧ goodWord (.fieldLink RX6 172 "GhostPane$Body" "spot" "I") = true := ⟨gp_t1 (List.mem_of_getElem? (i := 108) rfl), rfl⟩
theorem tw_532 : (.selects RX0 yX0_addCounts yX0_addCounts : Cond) ∈ lw_tbl ∧ goodWord (.selects RX0 yX0_addCounts yX0_addCounts) = true := ⟨gp_t4 (List.mem_of_getElem? (i := 10) rfl), rfl⟩
theorem tw_533 : (.instanceMethod yX0_addCounts : Cond) ∈ lw_tbl ∧ goodWord (.instanceMethod yX0_addCounts) = true := ⟨gp_t4 (List.mem_of_getElem? (i := 9) rfl), rfl⟩
theorem tw_534 : (.methodLink RX6 149 yX0_addCounts : Cond) ∈ lw_tbl ∧ goodWord (.methodLink RX6 149 yX0_addCounts) = true := ⟨gp_t4 (List.mem_of_getElem? (i := 8) rfl), rfl⟩
theorem tw_535 : (.code Lib.Math.min.name Lib.Math.min.code 2 (some .int) : Cond) ∈ lw_tbl ∧ goodWord (.code Lib.Math.min.name Lib.Math.min.code 2 (some .int)) = true := ⟨gp_t4 (List.mem_of_getElem? (i := 14) rfl), rfl⟩
theorem tw_536 : (.initialized "java/lang/Math" : Cond) ∈ lw_tbl ∧ goodWord (.initialized "java/lang/Math") = true := ⟨gp_t1 (List.mem_of_getElem? (i := 14) rfl), rfl⟩
theorem tw_537 : (.static Lib.Math.min.name : Cond) ∈ lw_tbl ∧ goodWord (.static Lib.Math.min.name) = true := ⟨gp_t4 (List.mem_of_getElem? (i := 13) rfl), rfl⟩
theorem tw_538 : (.methodLink RX0 27 Lib.Math.min.name : Cond) ∈ lw_tbl ∧ goodWord (.methodLink RX0 27 Lib.Math.min.name) = true := ⟨gp_t4 (List.mem_of_getElem? (i := 12) rfl), rfl⟩
theorem tw_539 : (.code yX0_addCounts cX0_addCounts 2 none : Cond) ∈ lw_tbl ∧ goodWord (.code yX0_addCounts cX0_addCounts 2 none) = true := ⟨gp_t4 (List.mem_of_getElem? (i := 11) rfl), rfl⟩
theorem tw_540 : (.fieldLink RX6 177 "GhostPane$Body" "start" "I" : Cond) ∈ lw_tbl ∧ goodWord (.fieldLink RX6 177 "GhostPane$Body" "start" "I") = true := ⟨gp_t1 (List.mem_of_getElem? (i := 102) rfl), rfl⟩
theorem tw_541 : (.code yX6_tellDo cX6_tellDo 2 none : Cond) ∈ lw_tbl ∧ goodWord (.code yX6_tellDo cX6_tellDo 2 none) = true := ⟨gp_t4 (List.mem_of_getElem? (i := 137) rfl), rfl⟩
theorem tw_542 : (.selects RX6 yX6_tellRepeat yX6_tellRepeat : Cond) ∈ lw_tbl ∧ goodWord (.selects RX6 yX6_tellRepeat yX6_tellRepeat) = true := ⟨List.mem_of_getElem? (i := 21) rfl, rfl⟩
theorem tw_543 : (.instanceMethod yX6_tellRepeat : Cond) ∈ lw_tbl ∧ goodWord (.instanceMethod yX6_tellRepeat) = true := ⟨gp_t4 (List.mem_of_getElem? (i := 153) rfl), rfl⟩
theorem tw_544 : (.methodLink RX6 127 yX6_tellRepeat : Cond) ∈ lw_tbl ∧ goodWord (.methodLink RX6 127 yX6_tellRepeat) = true := ⟨gp_t4 (List.mem_of_getElem? (i := 151) rfl), rfl⟩
theorem tw_545 : (.selects RX9 yX9_needNumber yX9_needNumber : Cond) ∈ lw_tbl ∧ goodWord (.selects RX9 yX9_needNumber yX9_needNumber) = true := ⟨gp_t4 (List.mem_of_getElem? (i := 89) rfl), rfl⟩
theorem tw_546 : (.instanceMethod yX9_needNumber : Cond) ∈ lw_tbl ∧ goodWord (.instanceMethod yX9_needNumber) = true := ⟨gp_t4 (List.mem_of_getElem? (i := 88) rfl), rfl⟩
theorem tw_547 : (.methodLink RX6 92 yX9_needNumber : Cond) ∈ lw_tbl ∧ goodWord (.methodLink RX6 92 yX9_needNumber) = true := ⟨gp_t4 (List.mem_of_getElem? (i := 87) rfl), rfl⟩
theorem tw_548 : (.selects RX9 yX9_isDigit yX9_isDigit : Cond) ∈ lw_tbl ∧ goodWord (.selects RX9 yX9_isDigit yX9_isDigit) = true := ⟨List.mem_of_getElem? (i := 13) rfl, rfl⟩
theorem tw_549 : (.instanceMethod yX9_isDigit : Cond) ∈ lw_tbl ∧ goodWord (.instanceMethod yX9_isDigit) = true := ⟨gp_t4 (List.mem_of_getElem? (i := 97) rfl), rfl⟩
theorem tw_550 : (.methodLink RX9 68 yX9_isDigit : Cond) ∈ lw_tbl ∧ goodWord (.methodLink RX9 68 yX9_isDigit) = true := ⟨gp_t4 (List.mem_of_getElem? (i := 95) rfl), rfl⟩
theorem tw_551 : (.code yX9_isDigit cX9_isDigit 1 (some .boolean) : Cond) ∈ lw_tbl ∧ goodWord (.code yX9_isDigit cX9_isDigit 1 (some .boolean)) = true := ⟨gp_t4 (List.mem_of_getElem? (i := 98) rfl), rfl⟩
theorem tw_552 : (.code yX9_needNumber cX9_needNumber 6 (some .int) : Cond) ∈ lw_tbl ∧ goodWord (.code yX9_needNumber cX9_needNumber 6 (some .int)) = true := ⟨gp_t4 (List.mem_of_getElem? (i := 90) rfl), rfl⟩
theorem tw_553 : (.code yX6_tellRepeat cX6_tellRepeat 2 none : Cond) ∈ lw_tbl ∧ goodWord (.code yX6_tellRepeat cX6_tellRepeat 2 none) = true := ⟨gp_t4 (List.mem_of_getElem? (i := 154) rfl), rfl⟩
theorem tw_554 : (.selects RX6 yX6_tellFigure yX6_tellFigure : Cond) ∈ lw_tbl ∧ goodWord (.selects RX6 yX6_tellFigure yX6_tellFigure) = true := ⟨List.mem_of_getElem? (i := 23) rfl, rfl⟩
theorem tw_555 : (.instanceMethod yX6_tellFigure : Cond) ∈ lw_tbl ∧ goodWord (.instanceMethod yX6_tellFigure) = true := ⟨gp_t4 (List.mem_of_getElem? (i := 166) rfl), rfl⟩
theorem tw_556 : (.methodLink RX6 132 yX6_tellFigure : Cond) ∈ lw_tbl ∧ goodWord (.methodLink RX6 132 yX6_tellFigure) = true := ⟨gp_t4 (List.mem_of_getElem? (i := 164) rfl), rfl⟩
theorem tw_557 : (.selects RX6 yX6_tellOpen yX6_tellOpen : Cond) ∈ lw_tbl ∧ goodWord (.selects RX6 yX6_tellOpen yX6_tellOpen) = true := ⟨List.mem_of_getElem? (i := 22) rfl, rfl⟩
theorem tw_558 : (.instanceMethod yX6_tellOpen : Cond) ∈ lw_tbl ∧ goodWord (.instanceMethod yX6_tellOpen) = true := ⟨gp_t4 (List.mem_of_getElem? (i := 157) rfl), rfl⟩
theorem tw_559 : (.methodLink RX6 190 yX6_tellOpen : Cond) ∈ lw_tbl ∧ goodWord (.methodLink RX6 190 yX6_tellOpen) = true := ⟨gp_t4 (List.mem_of_getElem? (i := 155) rfl), rfl⟩
theorem tw_560 : (.selects RX9 yX9_place yX9_place : Cond) ∈ lw_tbl ∧ goodWord (.selects RX9 yX9_place yX9_place) = true := ⟨gp_t4 (List.mem_of_getElem? (i := 161) rfl), rfl⟩
theorem tw_561 : (.instanceMethod yX9_place : Cond) ∈ lw_tbl ∧ goodWord (.instanceMethod yX9_place) = true := ⟨gp_t4 (List.mem_of_getElem? (i := 160) rfl), rfl⟩
theorem tw_562 : (.methodLink RX6 196 yX9_place : Cond) ∈ lw_tbl ∧ goodWord (.methodLink RX6 196 yX9_place) = true := ⟨gp_t4 (List.mem_of_getElem? (i := 159) rfl), rfl⟩
theorem tw_563 : (.code yX9_place cX9_place 1 (some .int) : Cond) ∈ lw_tbl ∧ goodWord (.code yX9_place cX9_place 1 (some .int)) = true := ⟨gp_t4 (List.mem_of_getElem? (i := 162) rfl), rfl⟩
theorem tw_564 : (.initialized RX2 : Cond) ∈ lw_tbl ∧ goodWord (.initialized RX2) = true := ⟨gp_t1 (List.mem_of_getElem? (i := 4) rfl), rfl⟩
theorem tw_565 : (.selects RX2 yX2_add yX2_add : Cond) ∈ lw_tbl ∧ goodWord (.selects RX2 yX2_add yX2_add) = true := ⟨gp_t3 (List.mem_of_getElem? (i := 226) rfl), rfl⟩
theorem tw_566 : (.instanceMethod yX2_add : Cond) ∈ lw_tbl ∧ goodWord (.instanceMethod yX2_add) = true := ⟨gp_t3 (List.mem_of_getElem? (i := 225) rfl), rfl⟩
theorem tw_567 : (.methodLink RX6 145 yX2_add : Cond) ∈ lw_tbl ∧ goodWord (.methodLink RX6 145 yX2_add) = true := ⟨gp_t3 (List.mem_of_getElem? (i := 224) rfl), rfl⟩
theorem tw_568 : (.fieldLink RX2 16 "GhostPane$Code" "second" "[I" : Cond) ∈ lw_tbl ∧ goodWord (.fieldLink RX2 16 "GhostPane$Code" "second" "[I") = true := ⟨gp_t1 (List.mem_of_getElem? (i := 82) rfl), rfl⟩
theorem tw_569 : (.fieldLink RX2 13 "GhostPane$Code" "first" "[I" : Cond) ∈ lw_tbl ∧ goodWord (.fieldLink RX2 13 "GhostPane$Code" "first" "[I") = true := ⟨gp_t1 (List.mem_of_getElem? (i := 80) rfl), rfl⟩
theorem tw_570 : (.fieldLink RX2 9 "GhostPane$Code" "kind" "[I" : Cond) ∈ lw_tbl ∧ goodWord (.fieldLink RX2 9 "GhostPane$Code" "kind" "[I") = true := ⟨gp_t1 (List.mem_of_getElem? (i := 78) rfl), rfl⟩
theorem tw_571 : (.fieldLink RX2 19 "GhostPane$Code" "size" "I" : Cond) ∈ lw_tbl ∧ goodWord (.fieldLink RX2 19 "GhostPane$Code" "size" "I") = true := ⟨gp_t1 (List.mem_of_getElem? (i := 75) rfl), rfl⟩
theorem tw_572 : (.code yX2_add cX2_add 4 none : Cond) ∈ lw_tbl ∧ goodWord (.code yX2_add cX2_add 4 none) = true := ⟨gp_t3 (List.mem_of_getElem? (i := 227) rfl), rfl⟩
theorem tw_573 : (.selects RX9 yX9_needSign yX9_needSign : Cond) ∈ lw_tbl ∧ goodWord (.selects RX9 yX9_needSign yX9_needSign) = true := ⟨gp_t4 (List.mem_of_getElem? (i := 17) rfl), rfl⟩
theorem tw_574 : (.instanceMethod yX9_needSign : Cond) ∈ lw_tbl ∧ goodWord (.instanceMethod yX9_needSign) = true := ⟨gp_t4 (List.mem_of_getElem? (i := 16) rfl), rfl⟩
theorem tw_575 : (.methodLink RX6 141 yX9_needSign : Cond) ∈ lw_tbl ∧ goodWord (.methodLink RX6 141 yX9_needSign) = true := ⟨gp_t4 (List.mem_of_getElem? (i := 15) rfl), rfl⟩
theorem tw_576 : (.selects RX9 yX9_takesSign yX9_takesSign : Cond) ∈ lw_tbl ∧ goodWord (.selects RX9 yX9_takesSign yX9_takesSign) = true := ⟨gp_t3 (List.mem_of_getElem? (i := 218) rfl), rfl⟩
theorem tw_577 : (.instanceMethod yX9_takesSign : Cond) ∈ lw_tbl ∧ goodWord (.instanceMethod yX9_takesSign) = true := ⟨gp_t3 (List.mem_of_getElem? (i := 217) rfl), rfl⟩
theorem tw_578 : (.methodLink RX9 35 yX9_takesSign : Cond) ∈ lw_tbl ∧ goodWord (.methodLink RX9 35 yX9_takesSign) = true := ⟨gp_t4 (List.mem_of_getElem? (i := 20) rfl), rfl⟩
theorem tw_579 : (.code yX9_takesSign cX9_takesSign 2 (some .boolean) : Cond) ∈ lw_tbl ∧ goodWord (.code yX9_takesSign cX9_takesSign 2 (some .boolean)) = true := ⟨gp_t3 (List.mem_of_getElem? (i := 219) rfl), rfl⟩
theorem tw_580 : (.code yX9_needSign cX9_needSign 2 none : Cond) ∈ lw_tbl ∧ goodWord (.code yX9_needSign cX9_needSign 2 none) = true := ⟨gp_t4 (List.mem_of_getElem? (i := 18) rfl), rfl⟩
theorem tw_581 : (.code yX6_tellOpen cX6_tellOpen 3 none : Cond) ∈ lw_tbl ∧ goodWord (.code yX6_tellOpen cX6_tellOpen 3 none) = true := ⟨gp_t4 (List.mem_of_getElem? (i := 158) rfl), rfl⟩
theorem tw_582 : (.fieldLink RX6 193 "GhostPane$Tape" "wordTo" "I" : Cond) ∈ lw_tbl ∧ goodWord (.fieldLink RX6 193 "GhostPane$Tape" "wordTo" "I") = true := ⟨gp_t1 (List.mem_of_getElem? (i := 44) rfl), rfl⟩
theorem tw_583 : (.selects RX6 yX6_figureNamed yX6_figureNamed : Cond) ∈ lw_tbl ∧ goodWord (.selects RX6 yX6_figureNamed yX6_figureNamed) = true := ⟨List.mem_of_getElem? (i := 20) rfl, rfl⟩
theorem tw_584 : (.instanceMethod yX6_figureNamed : Cond) ∈ lw_tbl ∧ goodWord (.instanceMethod yX6_figureNamed) = true := ⟨gp_t4 (List.mem_of_getElem? (i := 144) rfl), rfl⟩
theorem tw_585 : (.methodLink RX6 168 yX6_figureNamed : Cond) ∈ lw_tbl ∧ goodWord (.methodLink RX6 168 yX6_figureNamed) = true := ⟨gp_t4 (List.mem_of_getElem? (i := 142) rfl), rfl⟩
theorem tw_586 : (.selects RX9 yX9_isSameWord yX9_isSameWord : Cond) ∈ lw_tbl ∧ goodWord (.selects RX9 yX9_isSameWord yX9_isSameWord) = true := ⟨gp_t4 (List.mem_of_getElem? (i := 148) rfl), rfl⟩
theorem tw_587 : (.instanceMethod yX9_isSameWord : Cond) ∈ lw_tbl ∧ goodWord (.instanceMethod yX9_isSameWord) = true := ⟨gp_t4 (List.mem_of_getElem? (i := 147) rfl), rfl⟩
theorem tw_588 : (.methodLink RX6 186 yX9_isSameWord : Cond) ∈ lw_tbl ∧ goodWord (.methodLink RX6 186 yX9_isSameWord) = true := ⟨gp_t4 (List.mem_of_getElem? (i := 146) rfl), rfl⟩
theorem tw_589 : (.code yX9_isSameWord cX9_isSameWord 4 (some .boolean) : Cond) ∈ lw_tbl ∧ goodWord (.code yX9_isSameWord cX9_isSameWord 4 (some .boolean)) = true := ⟨gp_t4 (List.mem_of_getElem? (i := 149) rfl), rfl⟩
theorem tw_590 : (.fieldLink RX6 183 "GhostPane$Body" "nameTo" "I" : Cond) ∈ lw_tbl ∧ goodWord (.fieldLink RX6 183 "GhostPane$Body" "nameTo" "I") = true := ⟨gp_t1 (List.mem_of_getElem? (i := 112) rfl), rfl⟩
theorem tw_591 : (.fieldLink RX6 180 "GhostPane$Body" "nameFrom" "I" : Cond) ∈ lw_tbl ∧ goodWord (.fieldLink RX6 180 "GhostPane$Body" "nameFrom" "I") = true := ⟨gp_t1 (List.mem_of_getElem? (i := 111) rfl), rfl⟩
theorem tw_592 : (.fieldLink RX6 24 "GhostPane$Parser" "figures" "[LGhostPane$Body;" : Cond) ∈ lw_tbl ∧ goodWord (.fieldLink RX6 24 "GhostPane$Parser" "figures" "[LGhostPane$Body;") = true := ⟨gp_t1 (List.mem_of_getElem? (i := 132) rfl), rfl⟩
theorem tw_593 : (.code yX6_figureNamed cX6_figureNamed 2 (some .int) : Cond) ∈ lw_tbl ∧ goodWord (.code yX6_figureNamed cX6_figureNamed 2 (some .int)) = true := ⟨gp_t4 (List.mem_of_getElem? (i := 145) rfl), rfl⟩
theorem tw_594 : (.selects RX9 yX9_needName yX9_needName : Cond) ∈ lw_tbl ∧ goodWord (.selects RX9 yX9_needName yX9_needName) = true := ⟨gp_t4 (List.mem_of_getElem? (i := 140) rfl), rfl⟩
theorem tw_595 : (.instanceMethod yX9_needName : Cond) ∈ lw_tbl ∧ goodWord (.instanceMethod yX9_needName) = true := ⟨gp_t4 (List.mem_of_getElem? (i := 139) rfl), rfl⟩
theorem tw_596 : (.methodLink RX6 165 yX9_needName : Cond) ∈ lw_tbl ∧ goodWord (.methodLink RX6 165 yX9_needName) = true := ⟨gp_t4 (List.mem_of_getElem? (i := 138) rfl), rfl⟩
theorem tw_597 : (.selects RX9 yX9_skipGap yX9_skipGap : Cond) ∈ lw_tbl ∧ goodWord (.selects RX9 yX9_skipGap yX9_skipGap) = true := ⟨List.mem_of_getElem? (i := 12) rfl, rfl⟩
theorem tw_598 : (.instanceMethod yX9_skipGap : Cond) ∈ lw_tbl ∧ goodWord (.instanceMethod yX9_skipGap) = true := ⟨gp_t4 (List.mem_of_getElem? (i := 93) rfl), rfl⟩
theorem tw_599 : (.methodLink RX9 58 yX9_skipGap : Cond) ∈ lw_tbl ∧ goodWord (.methodLink RX9 58 yX9_skipGap) = true := ⟨gp_t4 (List.mem_of_getElem? (i := 91) rfl), rfl⟩
theorem tw_600 : (.methodLink RX9 31 yX9_fail : Cond) ∈ lw_tbl ∧ goodWord (.methodLink RX9 31 yX9_fail) = true := ⟨gp_t4 (List.mem_of_getElem? (i := 21) rfl), rfl⟩
theorem tw_601 : (.methodLink RX9 28 yX9_skipBlanks : Cond) ∈ lw_tbl ∧ goodWord (.methodLink RX9 28 yX9_skipBlanks) = true := ⟨gp_t4 (List.mem_of_getElem? (i := 19) rfl), rfl⟩
theorem tw_602 : (.code yX9_skipGap cX9_skipGap 2 none : Cond) ∈ lw_tbl ∧ goodWord (.code yX9_skipGap cX9_skipGap 2 none) = true := ⟨gp_t4 (List.mem_of_getElem? (i := 94) rfl), rfl⟩
theorem tw_603 : (.code yX9_needName cX9_needName 2 none : Cond) ∈ lw_tbl ∧ goodWord (.code yX9_needName cX9_needName 2 none) = true := ⟨gp_t4 (List.mem_of_getElem? (i := 141) rfl), rfl⟩
theorem tw_604 : (.code yX6_tellFigure cX6_tellFigure 3 none : Cond) ∈ lw_tbl ∧ goodWord (.code yX6_tellFigure cX6_tellFigure 3 none) = true := ⟨gp_t4 (List.mem_of_getElem? (i := 167) rfl), rfl⟩
theorem tw_605 : (.fieldLink RX6 135 "GhostPane$Tape" "wordFrom" "I" : Cond) ∈ lw_tbl ∧ goodWord (.fieldLink RX6 135 "GhostPane$Tape" "wordFrom" "I") = true := ⟨gp_t1 (List.mem_of_getElem? (i := 41) rfl), rfl⟩
theorem tw_606 : (.selects RX9 yX9_isWord yX9_isWord : Cond) ∈ lw_tbl ∧ goodWord (.selects RX9 yX9_isWord yX9_isWord) = true := ⟨gp_t4 (List.mem_of_getElem? (i := 37) rfl), rfl⟩
theorem tw_607 : (.instanceMethod yX9_isWord : Cond) ∈ lw_tbl ∧ goodWord (.instanceMethod yX9_isWord) = true := ⟨gp_t4 (List.mem_of_getElem? (i := 36) rfl), rfl⟩
theorem tw_608 : (.methodLink RX6 88 yX9_isWord : Cond) ∈ lw_tbl ∧ goodWord (.methodLink RX6 88 yX9_isWord) = true := ⟨gp_t4 (List.mem_of_getElem? (i := 35) rfl), rfl⟩
theorem tw_609 : (.selects RJ0 yJ0_charAt_5068e yJ0_charAt_5068e : Cond) ∈ lw_tbl ∧ goodWord (.selects RJ0 yJ0_charAt_5068e yJ0_charAt_5068e) = true := ⟨gp_t4 (List.mem_of_getElem? (i := 51) rfl), rfl⟩
theorem tw_610 : (.instanceMethod yJ0_charAt_5068e : Cond) ∈ lw_tbl ∧ goodWord (.instanceMethod yJ0_charAt_5068e) = true := ⟨gp_t4 (List.mem_of_getElem? (i := 50) rfl), rfl⟩
theorem tw_611 : (.methodLink RX9 54 yJ0_charAt_5068e : Cond) ∈ lw_tbl ∧ goodWord (.methodLink RX9 54 yJ0_charAt_5068e) = true := ⟨gp_t4 (List.mem_of_getElem? (i := 49) rfl), rfl⟩
theorem tw_612 : (.initialized RJ1 : Cond) ∈ lw_tbl ∧ goodWord (.initialized RJ1) = true := ⟨gp_t1 (List.mem_of_getElem? (i := 16) rfl), rfl⟩
theorem tw_613 : (.static yJ1_charAt_3b067 : Cond) ∈ lw_tbl ∧ goodWord (.static yJ1_charAt_3b067) = true := ⟨gp_t4 (List.mem_of_getElem? (i := 58) rfl), rfl⟩
theorem tw_614 : (.methodLink RJ0 495 yJ1_charAt_3b067 : Cond) ∈ lw_tbl ∧ goodWord (.methodLink RJ0 495 yJ1_charAt_3b067) = true := ⟨gp_t4 (List.mem_of_getElem? (i := 57) rfl), rfl⟩
theorem tw_615 : (.static yJ0_checkIndex_df160 : Cond) ∈ lw_tbl ∧ goodWord (.static yJ0_checkIndex_df160) = true := ⟨gp_t4 (List.mem_of_getElem? (i := 61) rfl), rfl⟩
theorem tw_616 : (.methodLink RJ1 9 yJ0_checkIndex_df160 : Cond) ∈ lw_tbl ∧ goodWord (.methodLink RJ1 9 yJ0_checkIndex_df160) = true := ⟨gp_t4 (List.mem_of_getElem? (i := 60) rfl), rfl⟩
theorem tw_617 : (.initialized RJ3 : Cond) ∈ lw_tbl ∧ goodWord (.initialized RJ3) = true := ⟨gp_t1 (List.mem_of_getElem? (i := 17) rfl), rfl⟩
theorem tw_618 : (.static yJ3_checkIndex_8e157 : Cond) ∈ lw_tbl ∧ goodWord (.static yJ3_checkIndex_8e157) = true := ⟨gp_t4 (List.mem_of_getElem? (i := 66) rfl), rfl⟩
theorem tw_619 : (.methodLink RJ0 1059 yJ3_checkIndex_8e157 : Cond) ∈ lw_tbl ∧ goodWord (.methodLink RJ0 1059 yJ3_checkIndex_8e157) = true := ⟨gp_t4 (List.mem_of_getElem? (i := 65) rfl), rfl⟩
theorem tw_620 : (.code yJ3_checkIndex_8e157 cJ3_checkIndex_8e157 3 (some .int) : Cond) ∈ lw_tbl ∧ goodWord (.code yJ3_checkIndex_8e157 cJ3_checkIndex_8e157 3 (some .int)) = true := ⟨gp_t4 (List.mem_of_getElem? (i := 67) rfl), rfl⟩
theorem tw_621 : (.fieldLink RJ0 1053 "jdk/internal/util/Preconditions" "SIOOBE_FORMATTER" "Ljava/util/function/BiFunction;" : Cond) ∈ lw_tbl ∧ goodWord (.fieldLink RJ0 1053 "jdk/internal/util/Preconditions" "SIOOBE_FORMATTER" "Ljava/util/function/BiFunction;") = true := ⟨gp_t4 (List.mem_of_getElem? (i := 63) rfl), rfl⟩
theorem tw_622 : (.code yJ0_checkIndex_df160 cJ0_checkIndex_df160 2 none : Cond) ∈ lw_tbl ∧ goodWord (.code yJ0_checkIndex_df160 cJ0_checkIndex_df160 2 none) = true := ⟨gp_t4 (List.mem_of_getElem? (i := 62) rfl), rfl⟩
theorem tw_623 : (.code yJ1_charAt_3b067 cJ1_charAt_3b067 2 (some .char) : Cond) ∈ lw_tbl ∧ goodWord (.code yJ1_charAt_3b067 cJ1_charAt_3b067 2 (some .char)) = true := ⟨gp_t4 (List.mem_of_getElem? (i := 59) rfl), rfl⟩
theorem tw_624 : (.selects RJ0 yJ0_isLatin1_aae02 yJ0_isLatin1_aae02 : Cond) ∈ lw_tbl ∧ goodWord (.selects RJ0 yJ0_isLatin1_aae02 yJ0_isLatin1_aae02) = true := ⟨gp_t4 (List.mem_of_getElem? (i := 55) rfl), rfl⟩
theorem tw_625 : (.instanceMethod yJ0_isLatin1_aae02 : Cond) ∈ lw_tbl ∧ goodWord (.instanceMethod yJ0_isLatin1_aae02) = true := ⟨gp_t4 (List.mem_of_getElem? (i := 54) rfl), rfl⟩
theorem tw_626 : (.methodLink RJ0 492 yJ0_isLatin1_aae02 : Cond) ∈ lw_tbl ∧ goodWord (.methodLink RJ0 492 yJ0_isLatin1_aae02) = true := ⟨gp_t4 (List.mem_of_getElem? (i := 53) rfl), rfl⟩
theorem tw_627 : (.code yJ0_isLatin1_aae02 cJ0_isLatin1_aae02 1 (some .boolean) : Cond) ∈ lw_tbl ∧ goodWord (.code yJ0_isLatin1_aae02 cJ0_isLatin1_aae02 1 (some .boolean)) = true := ⟨gp_t4 (List.mem_of_getElem? (i := 56) rfl), rfl⟩
theorem tw_628 : (.code yJ0_charAt_5068e cJ0_charAt_5068e 2 (some .char) : Cond) ∈ lw_tbl ∧ goodWord (.code yJ0_charAt_5068e cJ0_charAt_5068e 2 (some .char)) = true := ⟨gp_t4 (List.mem_of_getElem? (i := 52) rfl), rfl⟩
theorem tw_629 : (.selects RJ0 yJ0_length_8abf5 yJ0_length_8abf5 : Cond) ∈ lw_tbl ∧ goodWord (.selects RJ0 yJ0_length_8abf5 yJ0_length_8abf5) = true := ⟨gp_t4 (List.mem_of_getElem? (i := 41) rfl), rfl⟩
theorem tw_630 : (.instanceMethod yJ0_length_8abf5 : Cond) ∈ lw_tbl ∧ goodWord (.instanceMethod yJ0_length_8abf5) = true := ⟨gp_t4 (List.mem_of_getElem? (i := 40) rfl), rfl⟩
theorem tw_631 : (.methodLink RX9 49 yJ0_length_8abf5 : Cond) ∈ lw_tbl ∧ goodWord (.methodLink RX9 49 yJ0_length_8abf5) = true := ⟨gp_t4 (List.mem_of_getElem? (i := 39) rfl), rfl⟩
theorem tw_632 : (.initialized RJ0 : Cond) ∈ lw_tbl ∧ goodWord (.initialized RJ0) = true := ⟨gp_t1 (List.mem_of_getElem? (i := 15) rfl), rfl⟩
theorem tw_633 : (.selects RJ0 yJ0_coder_7d493 yJ0_coder_7d493 : Cond) ∈ lw_tbl ∧ goodWord (.selects RJ0 yJ0_coder_7d493 yJ0_coder_7d493) = true := ⟨gp_t4 (List.mem_of_getElem? (i := 45) rfl), rfl⟩
theorem tw_634 : (.instanceMethod yJ0_coder_7d493 : Cond) ∈ lw_tbl ∧ goodWord (.instanceMethod yJ0_coder_7d493) = true := ⟨gp_t4 (List.mem_of_getElem? (i := 44) rfl), rfl⟩
theorem tw_635 : (.methodLink RJ0 335 yJ0_coder_7d493 : Cond) ∈ lw_tbl ∧ goodWord (.methodLink RJ0 335 yJ0_coder_7d493) = true := ⟨gp_t4 (List.mem_of_getElem? (i := 43) rfl), rfl⟩
theorem tw_636 : (.fieldLink RJ0 15 "java/lang/String" "coder" "B" : Cond) ∈ lw_tbl ∧ goodWord (.fieldLink RJ0 15 "java/lang/String" "coder" "B") = true := ⟨gp_t8 (List.mem_of_getElem? (i := 224) rfl), rfl⟩
theorem tw_637 : (.fieldLink RJ0 38 "java/lang/String" "COMPACT_STRINGS" "Z" : Cond) ∈ lw_tbl ∧ goodWord (.fieldLink RJ0 38 "java/lang/String" "COMPACT_STRINGS" "Z") = true := ⟨gp_t4 (List.mem_of_getElem? (i := 47) rfl), rfl⟩
theorem tw_638 : (.code yJ0_coder_7d493 cJ0_coder_7d493 1 (some .byte) : Cond) ∈ lw_tbl ∧ goodWord (.code yJ0_coder_7d493 cJ0_coder_7d493 1 (some .byte)) = true := ⟨gp_t4 (List.mem_of_getElem? (i := 46) rfl), rfl⟩
theorem tw_639 : (.fieldLink RJ0 9 "java/lang/String" "value" "[B" : Cond) ∈ lw_tbl ∧ goodWord (.fieldLink RJ0 9 "java/lang/String" "value" "[B") = true := ⟨gp_t8 (List.mem_of_getElem? (i := 223) rfl), rfl⟩
theorem tw_640 : (.code yJ0_length_8abf5 cJ0_length_8abf5 1 (some .int) : Cond) ∈ lw_tbl ∧ goodWord (.code yJ0_length_8abf5 cJ0_length_8abf5 1 (some .int)) = true := ⟨gp_t4 (List.mem_of_getElem? (i := 42) rfl), rfl⟩
theorem tw_641 : (.code yX9_isWord cX9_isWord 3 (some .boolean) : Cond) ∈ lw_tbl ∧ goodWord (.code yX9_isWord cX9_isWord 3 (some .boolean)) = true := ⟨gp_t4 (List.mem_of_getElem? (i := 38) rfl), rfl⟩
theorem tw_642 : (.selects RX9 yX9_readWord yX9_readWord : Cond) ∈ lw_tbl ∧ goodWord (.selects RX9 yX9_readWord yX9_readWord) = true := ⟨gp_t4 (List.mem_of_getElem? (i := 28) rfl), rfl⟩
theorem tw_643 : (.instanceMethod yX9_readWord : Cond) ∈ lw_tbl ∧ goodWord (.instanceMethod yX9_readWord) = true := ⟨gp_t4 (List.mem_of_getElem? (i := 27) rfl), rfl⟩
theorem tw_644 : (.methodLink RX6 83 yX9_readWord : Cond) ∈ lw_tbl ∧ goodWord (.methodLink RX6 83 yX9_readWord) = true := ⟨gp_t4 (List.mem_of_getElem? (i := 26) rfl), rfl⟩
theorem tw_645 : (.selects RX9 yX9_isLetter yX9_isLetter : Cond) ∈ lw_tbl ∧ goodWord (.selects RX9 yX9_isLetter yX9_isLetter) = true := ⟨List.mem_of_getElem? (i := 11) rfl, rfl⟩
theorem tw_646 : (.instanceMethod yX9_isLetter : Cond) ∈ lw_tbl ∧ goodWord (.instanceMethod yX9_isLetter) = true := ⟨gp_t4 (List.mem_of_getElem? (i := 32) rfl), rfl⟩
theorem tw_647 : (.methodLink RX9 42 yX9_isLetter : Cond) ∈ lw_tbl ∧ goodWord (.methodLink RX9 42 yX9_isLetter) = true := ⟨gp_t4 (List.mem_of_getElem? (i := 30) rfl), rfl⟩
theorem tw_648 : (.code yX9_isLetter cX9_isLetter 2 (some .boolean) : Cond) ∈ lw_tbl ∧ goodWord (.code yX9_isLetter cX9_isLetter 2 (some .boolean)) = true := ⟨gp_t4 (List.mem_of_getElem? (i := 33) rfl), rfl⟩
theorem tw_649 : (.fieldLink RX9 46 "GhostPane$Tape" "wordTo" "I" : Cond) ∈ lw_tbl ∧ goodWord (.fieldLink RX9 46 "GhostPane$Tape" "wordTo" "I") = true := ⟨gp_t1 (List.mem_of_getElem? (i := 43) rfl), rfl⟩
theorem tw_650 : (.fieldLink RX9 39 "GhostPane$Tape" "wordFrom" "I" : Cond) ∈ lw_tbl ∧ goodWord (.fieldLink RX9 39 "GhostPane$Tape" "wordFrom" "I") = true := ⟨gp_t1 (List.mem_of_getElem? (i := 42) rfl), rfl⟩
theorem tw_651 : (.code yX9_readWord cX9_readWord 1 none : Cond) ∈ lw_tbl ∧ goodWord (.code yX9_readWord cX9_readWord 1 none) = true := ⟨gp_t4 (List.mem_of_getElem? (i := 29) rfl), rfl⟩
theorem tw_652 : (.code yX6_tell cX6_tell 1 none : Cond) ∈ lw_tbl ∧ goodWord (.code yX6_tell cX6_tell 1 none) = true := ⟨gp_t4 (List.mem_of_getElem? (i := 25) rfl), rfl⟩
theorem tw_653 : (.initialized RX6 : Cond) ∈ lw_tbl ∧ goodWord (.initialized RX6) = true := ⟨gp_t1 (List.mem_of_getElem? (i := 3) rfl), rfl⟩
theorem tw_654 : (.selects RX6 yX6_hasMore yX6_hasMore : Cond) ∈ lw_tbl ∧ goodWord (.selects RX6 yX6_hasMore yX6_hasMore) = true := ⟨List.mem_of_getElem? (i := 5) rfl, rfl⟩
theorem tw_655 : (.instanceMethod yX6_hasMore : Cond) ∈ lw_tbl ∧ goodWord (.instanceMethod yX6_hasMore) = true := ⟨gp_t3 (List.mem_of_getElem? (i := 202) rfl), rfl⟩
theorem tw_656 : (.methodLink RX6 51 yX6_hasMore : Cond) ∈ lw_tbl ∧ goodWord (.methodLink RX6 51 yX6_hasMore) = true := ⟨gp_t3 (List.mem_of_getElem? (i := 200) rfl), rfl⟩
theorem tw_657 : (.selects RX9 yX9_isRead yX9_isRead : Cond) ∈ lw_tbl ∧ goodWord (.selects RX9 yX9_isRead yX9_isRead) = true := ⟨gp_t3 (List.mem_of_getElem? (i := 210) rfl), rfl⟩
theorem tw_658 : (.instanceMethod yX9_isRead : Cond) ∈ lw_tbl ∧ goodWord (.instanceMethod yX9_isRead) = true := ⟨gp_t3 (List.mem_of_getElem? (i := 209) rfl), rfl⟩
theorem tw_659 : (.methodLink RX6 80 yX9_isRead : Cond) ∈ lw_tbl ∧ goodWord (.methodLink RX6 80 yX9_isRead) = true := ⟨gp_t3 (List.mem_of_getElem? (i := 208) rfl), rfl⟩
theorem tw_660 : (.code yX9_isRead cX9_isRead 1 (some .boolean) : Cond) ∈ lw_tbl ∧ goodWord (.code yX9_isRead cX9_isRead 1 (some .boolean)) = true := ⟨gp_t3 (List.mem_of_getElem? (i := 211) rfl), rfl⟩
theorem tw_661 : (.selects RX9 yX9_skipBlanks yX9_skipBlanks : Cond) ∈ lw_tbl ∧ goodWord (.selects RX9 yX9_skipBlanks yX9_skipBlanks) = true := ⟨gp_t3 (List.mem_of_getElem? (i := 206) rfl), rfl⟩
theorem tw_662 : (.instanceMethod yX9_skipBlanks : Cond) ∈ lw_tbl ∧ goodWord (.instanceMethod yX9_skipBlanks) = true := ⟨gp_t3 (List.mem_of_getElem? (i := 205) rfl), rfl⟩
theorem tw_663 : (.methodLink RX6 77 yX9_skipBlanks : Cond) ∈ lw_tbl ∧ goodWord (.methodLink RX6 77 yX9_skipBlanks) = true := ⟨gp_t3 (List.mem_of_getElem? (i := 204) rfl), rfl⟩
theorem tw_664 : (.code yX9_skipBlanks cX9_skipBlanks 1 none : Cond) ∈ lw_tbl ∧ goodWord (.code yX9_skipBlanks cX9_skipBlanks 1 none) = true := ⟨gp_t3 (List.mem_of_getElem? (i := 207) rfl), rfl⟩
theorem tw_665 : (.fieldLink RX6 74 "GhostPane$Tape" "fault" "I" : Cond) ∈ lw_tbl ∧ goodWord (.fieldLink RX6 74 "GhostPane$Tape" "fault" "I") = true := ⟨gp_t1 (List.mem_of_getElem? (i := 37) rfl), rfl⟩
theorem tw_666 : (.code yX6_hasMore cX6_hasMore 1 (some .boolean) : Cond) ∈ lw_tbl ∧ goodWord (.code yX6_hasMore cX6_hasMore 1 (some .boolean)) = true := ⟨gp_t3 (List.mem_of_getElem? (i := 203) rfl), rfl⟩
theorem tw_667 : (.selects RX9 yX9_fail yX9_fail : Cond) ∈ lw_tbl ∧ goodWord (.selects RX9 yX9_fail yX9_fail) = true := ⟨gp_t3 (List.mem_of_getElem? (i := 214) rfl), rfl⟩
theorem tw_668 : (.instanceMethod yX9_fail : Cond) ∈ lw_tbl ∧ goodWord (.instanceMethod yX9_fail) = true := ⟨gp_t3 (List.mem_of_getElem? (i := 213) rfl), rfl⟩
theorem tw_669 : (.methodLink RX6 71 yX9_fail : Cond) ∈ lw_tbl ∧ goodWord (.methodLink RX6 71 yX9_fail) = true := ⟨gp_t3 (List.mem_of_getElem? (i := 212) rfl), rfl⟩
theorem tw_670 : (.code yX9_fail cX9_fail 3 none : Cond) ∈ lw_tbl ∧ goodWord (.code yX9_fail cX9_fail 3 none) = true := ⟨gp_t3 (List.mem_of_getElem? (i := 215) rfl), rfl⟩
theorem tw_671 : (.fieldLink RX6 68 "GhostPane$Tape" "length" "I" : Cond) ∈ lw_tbl ∧ goodWord (.fieldLink RX6 68 "GhostPane$Tape" "length" "I") = true := ⟨gp_t1 (List.mem_of_getElem? (i := 35) rfl), rfl⟩
theorem tw_672 : (.fieldLink RX6 65 "GhostPane$Body" "counts" "I" : Cond) ∈ lw_tbl ∧ goodWord (.fieldLink RX6 65 "GhostPane$Body" "counts" "I") = true := ⟨gp_t1 (List.mem_of_getElem? (i := 106) rfl), rfl⟩
theorem tw_673 : (.initialized RX0 : Cond) ∈ lw_tbl ∧ goodWord (.initialized RX0) = true := ⟨gp_t1 (List.mem_of_getElem? (i := 5) rfl), rfl⟩
theorem tw_674 : (.selects RX0 yX0_begin yX0_begin : Cond) ∈ lw_tbl ∧ goodWord (.selects RX0 yX0_begin yX0_begin) = true := ⟨gp_t3 (List.mem_of_getElem? (i := 198) rfl), rfl⟩
theorem tw_675 : (.instanceMethod yX0_begin : Cond) ∈ lw_tbl ∧ goodWord (.instanceMethod yX0_begin) = true := ⟨gp_t3 (List.mem_of_getElem? (i := 197) rfl), rfl⟩
theorem tw_676 : (.methodLink RX6 47 yX0_begin : Cond) ∈ lw_tbl ∧ goodWord (.methodLink RX6 47 yX0_begin) = true := ⟨gp_t3 (List.mem_of_getElem? (i := 196) rfl), rfl⟩
theorem tw_677 : (.fieldLink RX0 24 "GhostPane$Body" "light" "I" : Cond) ∈ lw_tbl ∧ goodWord (.fieldLink RX0 24 "GhostPane$Body" "light" "I") = true := ⟨gp_t1 (List.mem_of_getElem? (i := 109) rfl), rfl⟩
theorem tw_678 : (.fieldLink RX0 21 "GhostPane$Body" "spot" "I" : Cond) ∈ lw_tbl ∧ goodWord (.fieldLink RX0 21 "GhostPane$Body" "spot" "I") = true := ⟨gp_t1 (List.mem_of_getElem? (i := 107) rfl), rfl⟩
theorem tw_679 : (.fieldLink RX0 18 "GhostPane$Body" "counts" "I" : Cond) ∈ lw_tbl ∧ goodWord (.fieldLink RX0 18 "GhostPane$Body" "counts" "I") = true := ⟨gp_t1 (List.mem_of_getElem? (i := 105) rfl), rfl⟩
theorem tw_680 : (.fieldLink RX0 15 "GhostPane$Body" "times" "I" : Cond) ∈ lw_tbl ∧ goodWord (.fieldLink RX0 15 "GhostPane$Body" "times" "I") = true := ⟨gp_t1 (List.mem_of_getElem? (i := 103) rfl), rfl⟩
theorem tw_681 : (.fieldLink RX0 9 "GhostPane$Body" "start" "I" : Cond) ∈ lw_tbl ∧ goodWord (.fieldLink RX0 9 "GhostPane$Body" "start" "I") = true := ⟨gp_t1 (List.mem_of_getElem? (i := 101) rfl), rfl⟩
theorem tw_682 : (.code yX0_begin cX0_begin 3 none : Cond) ∈ lw_tbl ∧ goodWord (.code yX0_begin cX0_begin 3 none) = true := ⟨gp_t3 (List.mem_of_getElem? (i := 199) rfl), rfl⟩
theorem tw_683 : (.fieldLink RX6 20 "GhostPane$Parser" "open" "[LGhostPane$Body;" : Cond) ∈ lw_tbl ∧ goodWord (.fieldLink RX6 20 "GhostPane$Parser" "open" "[LGhostPane$Body;") = true := ⟨gp_t1 (List.mem_of_getElem? (i := 131) rfl), rfl⟩
theorem tw_684 : (.fieldLink RX6 44 "GhostPane$Parser" "told" "I" : Cond) ∈ lw_tbl ∧ goodWord (.fieldLink RX6 44 "GhostPane$Parser" "told" "I") = true := ⟨gp_t1 (List.mem_of_getElem? (i := 134) rfl), rfl⟩
theorem tw_685 : (.fieldLink RX6 41 "GhostPane$Parser" "depth" "I" : Cond) ∈ lw_tbl ∧ goodWord (.fieldLink RX6 41 "GhostPane$Parser" "depth" "I") = true := ⟨gp_t1 (List.mem_of_getElem? (i := 133) rfl), rfl⟩
theorem tw_686 : (.fieldLink RX6 37 "GhostPane$Code" "size" "I" : Cond) ∈ lw_tbl ∧ goodWord (.fieldLink RX6 37 "GhostPane$Code" "size" "I") = true := ⟨gp_t1 (List.mem_of_getElem? (i := 76) rfl), rfl⟩
theorem tw_687 : (.fieldLink RX6 12 "GhostPane$Parser" "code" "LGhostPane$Code;" : Cond) ∈ lw_tbl ∧ goodWord (.fieldLink RX6 12 "GhostPane$Parser" "code" "LGhostPane$Code;") = true := ⟨gp_t1 (List.mem_of_getElem? (i := 128) rfl), rfl⟩
theorem tw_688 : (.selects RX9 yX9_rewind yX9_rewind : Cond) ∈ lw_tbl ∧ goodWord (.selects RX9 yX9_rewind yX9_rewind) = true := ⟨gp_t3 (List.mem_of_getElem? (i := 194) rfl), rfl⟩
theorem tw_689 : (.instanceMethod yX9_rewind : Cond) ∈ lw_tbl ∧ goodWord (.instanceMethod yX9_rewind) = true := ⟨gp_t3 (List.mem_of_getElem? (i := 193) rfl), rfl⟩
theorem tw_690 : (.methodLink RX6 32 yX9_rewind : Cond) ∈ lw_tbl ∧ goodWord (.methodLink RX6 32 yX9_rewind) = true := ⟨gp_t3 (List.mem_of_getElem? (i := 192) rfl), rfl⟩
theorem tw_691 : (.fieldLink RX9 15 "GhostPane$Tape" "faultPlace" "I" : Cond) ∈ lw_tbl ∧ goodWord (.fieldLink RX9 15 "GhostPane$Tape" "faultPlace" "I") = true := ⟨gp_t1 (List.mem_of_getElem? (i := 39) rfl), rfl⟩
theorem tw_692 : (.fieldLink RX9 9 "GhostPane$Tape" "fault" "I" : Cond) ∈ lw_tbl ∧ goodWord (.fieldLink RX9 9 "GhostPane$Tape" "fault" "I") = true := ⟨gp_t1 (List.mem_of_getElem? (i := 36) rfl), rfl⟩
theorem tw_693 : (.fieldLink RX9 25 "GhostPane$Tape" "at" "I" : Cond) ∈ lw_tbl ∧ goodWord (.fieldLink RX9 25 "GhostPane$Tape" "at" "I") = true := ⟨gp_t1 (List.mem_of_getElem? (i := 45) rfl), rfl⟩
theorem tw_694 : (.code yX9_rewind cX9_rewind 1 none : Cond) ∈ lw_tbl ∧ goodWord (.code yX9_rewind cX9_rewind 1 none) = true := ⟨gp_t3 (List.mem_of_getElem? (i := 195) rfl), rfl⟩
theorem tw_695 : (.fieldLink RX6 27 "GhostPane$Parser" "tape" "LGhostPane$Tape;" : Cond) ∈ lw_tbl ∧ goodWord (.fieldLink RX6 27 "GhostPane$Parser" "tape" "LGhostPane$Tape;") = true := ⟨gp_t1 (List.mem_of_getElem? (i := 130) rfl), rfl⟩
theorem tw_696 : (.code yX6_parse cX6_parse 2 none : Cond) ∈ lw_tbl ∧ goodWord (.code yX6_parse cX6_parse 2 none) = true := ⟨gp_t3 (List.mem_of_getElem? (i := 191) rfl), rfl⟩
theorem tw_697 : (.fieldLink RX11 21 "GhostPane" "parser" "LGhostPane$Parser;" : Cond) ∈ lw_tbl ∧ goodWord (.fieldLink RX11 21 "GhostPane" "parser" "LGhostPane$Parser;") = true := ⟨gp_t2 (List.mem_of_getElem? (i := 224) rfl), rfl⟩
theorem tw_698 : (.code yX11_walk cX11_walk 1 (some .int) : Cond) ∈ lw_tbl ∧ goodWord (.code yX11_walk cX11_walk 1 (some .int)) = true := ⟨gp_t3 (List.mem_of_getElem? (i := 187) rfl), rfl⟩
theorem tw_699 : (.selects RX11 yX11_walk yX11_walk : Cond) ∈ lw_tbl ∧ goodWord (.selects RX11 yX11_walk yX11_walk) = true := ⟨gp_t3 (List.mem_of_getElem? (i := 186) rfl), rfl⟩
theorem tw_700 : (.instanceMethod yX11_walk : Cond) ∈ lw_tbl ∧ goodWord (.instanceMethod yX11_walk) = true := ⟨gp_t3 (List.mem_of_getElem? (i := 185) rfl), rfl⟩
theorem tw_701 : (.methodLink RL 85 yX11_walk : Cond) ∈ lw_tbl ∧ goodWord (.methodLink RL 85 yX11_walk) = true := ⟨gp_t3 (List.mem_of_getElem? (i := 184) rfl), rfl⟩
theorem tw_702 : (.selects RX12 yX12_walks yX12_walks : Cond) ∈ lw_tbl ∧ goodWord (.selects RX12 yX12_walks yX12_walks) = true := ⟨List.mem_of_getElem? (i := 71) rfl, rfl⟩
theorem tw_703 : (.instanceMethod yX12_walks : Cond) ∈ lw_tbl ∧ goodWord (.instanceMethod yX12_walks) = true := ⟨gp_t8 (List.mem_of_getElem? (i := 45) rfl), rfl⟩
theorem tw_704 : (.methodLink RX12 473 yX12_walks : Cond) ∈ lw_tbl ∧ goodWord (.methodLink RX12 473 yX12_walks) = true := ⟨gp_t8 (List.mem_of_getElem? (i := 43) rfl), rfl⟩
theorem tw_705 : (.fieldLink RX12 464 "GhostPaneModel" "last" "I" : Cond) ∈ lw_tbl ∧ goodWord (.fieldLink RX12 464 "GhostPaneModel" "last" "I") = true := ⟨gp_t6 (List.mem_of_getElem? (i := 195) rfl), rfl⟩
theorem tw_706 : (.selects RX12 yX12_carries yX12_carries : Cond) ∈ lw_tbl ∧ goodWord (.selects RX12 yX12_carries yX12_carries) = true := ⟨List.mem_of_getElem? (i := 72) rfl, rfl⟩
theorem tw_707 : (.instanceMethod yX12_carries : Cond) ∈ lw_tbl ∧ goodWord (.instanceMethod yX12_carries) = true := ⟨gp_t8 (List.mem_of_getElem? (i := 49) rfl), rfl⟩
theorem tw_708 : (.methodLink RX12 460 yX12_carries : Cond) ∈ lw_tbl ∧ goodWord (.methodLink RX12 460 yX12_carries) = true := ⟨gp_t8 (List.mem_of_getElem? (i := 47) rfl), rfl⟩
theorem tw_709 : (.selects RX12 yX12_enters yX12_enters : Cond) ∈ lw_tbl ∧ goodWord (.selects RX12 yX12_enters yX12_enters) = true := ⟨List.mem_of_getElem? (i := 77) rfl, rfl⟩
theorem tw_710 : (.instanceMethod yX12_enters : Cond) ∈ lw_tbl ∧ goodWord (.instanceMethod yX12_enters) = true := ⟨gp_t8 (List.mem_of_getElem? (i := 72) rfl), rfl⟩
theorem tw_711 : (.methodLink RX12 456 yX12_enters : Cond) ∈ lw_tbl ∧ goodWord (.methodLink RX12 456 yX12_enters) = true := ⟨gp_t8 (List.mem_of_getElem? (i := 70) rfl), rfl⟩
theorem tw_712 : (.fieldLink RX12 399 "GhostPaneModel" "pileAfter" "[I" : Cond) ∈ lw_tbl ∧ goodWord (.fieldLink RX12 399 "GhostPaneModel" "pileAfter" "[I") = true := ⟨gp_t6 (List.mem_of_getElem? (i := 204) rfl), rfl⟩
theorem tw_713 : (.fieldLink RX12 396 "GhostPaneModel" "pileLeft" "[I" : Cond) ∈ lw_tbl ∧ goodWord (.fieldLink RX12 396 "GhostPaneModel" "pileLeft" "[I") = true := ⟨gp_t6 (List.mem_of_getElem? (i := 203) rfl), rfl⟩
theorem tw_714 : (.fieldLink RX12 393 "GhostPaneModel" "pileEnd" "[I" : Cond) ∈ lw_tbl ∧ goodWord (.fieldLink RX12 393 "GhostPaneModel" "pileEnd" "[I") = true := ⟨gp_t6 (List.mem_of_getElem? (i := 202) rfl), rfl⟩
theorem tw_715 : (.fieldLink RX12 390 "GhostPaneModel" "pileStart" "[I" : Cond) ∈ lw_tbl ∧ goodWord (.fieldLink RX12 390 "GhostPaneModel" "pileStart" "[I") = true := ⟨gp_t6 (List.mem_of_getElem? (i := 201) rfl), rfl⟩
theorem tw_716 : (.code yX12_enters cX12_enters 4 none : Cond) ∈ lw_tbl ∧ goodWord (.code yX12_enters cX12_enters 4 none) = true := ⟨gp_t8 (List.mem_of_getElem? (i := 73) rfl), rfl⟩
theorem tw_717 : (.selects RX12 yX12_rises yX12_rises : Cond) ∈ lw_tbl ∧ goodWord (.selects RX12 yX12_rises yX12_rises) = true := ⟨List.mem_of_getElem? (i := 76) rfl, rfl⟩
theorem tw_718 : (.instanceMethod yX12_rises : Cond) ∈ lw_tbl ∧ goodWord (.instanceMethod yX12_rises) = true := ⟨gp_t8 (List.mem_of_getElem? (i := 68) rfl), rfl⟩
theorem tw_719 : (.methodLink RX12 453 yX12_rises : Cond) ∈ lw_tbl ∧ goodWord (.methodLink RX12 453 yX12_rises) = true := ⟨gp_t8 (List.mem_of_getElem? (i := 66) rfl), rfl⟩
theorem tw_720 : (.code yX12_rises cX12_rises 4 none : Cond) ∈ lw_tbl ∧ goodWord (.code yX12_rises cX12_rises 4 none) = true := ⟨gp_t8 (List.mem_of_getElem? (i := 69) rfl), rfl⟩
theorem tw_721 : (.selects RX12 yX12_moves yX12_moves : Cond) ∈ lw_tbl ∧ goodWord (.selects RX12 yX12_moves yX12_moves) = true := ⟨List.mem_of_getElem? (i := 74) rfl, rfl⟩
theorem tw_722 : (.instanceMethod yX12_moves : Cond) ∈ lw_tbl ∧ goodWord (.instanceMethod yX12_moves) = true := ⟨gp_t8 (List.mem_of_getElem? (i := 57) rfl), rfl⟩
theorem tw_723 : (.methodLink RX12 450 yX12_moves : Cond) ∈ lw_tbl ∧ goodWord (.methodLink RX12 450 yX12_moves) = true := ⟨gp_t8 (List.mem_of_getElem? (i := 55) rfl), rfl⟩
theorem tw_724 : (.static yX12_floorOf : Cond) ∈ lw_tbl ∧ goodWord (.static yX12_floorOf) = true := ⟨gp_t8 (List.mem_of_getElem? (i := 64) rfl), rfl⟩
theorem tw_725 : (.methodLink RX12 441 yX12_floorOf : Cond) ∈ lw_tbl ∧ goodWord (.methodLink RX12 441 yX12_floorOf) = true := ⟨gp_t8 (List.mem_of_getElem? (i := 63) rfl), rfl⟩
theorem tw_726 : (.code yX12_floorOf cX12_floorOf 2 (some .int) : Cond) ∈ lw_tbl ∧ goodWord (.code yX12_floorOf cX12_floorOf 2 (some .int)) = true := ⟨gp_t8 (List.mem_of_getElem? (i := 65) rfl), rfl⟩
theorem tw_727 : (.selects RX12 yX12_goesOn yX12_goesOn : Cond) ∈ lw_tbl ∧ goodWord (.selects RX12 yX12_goesOn yX12_goesOn) = true := ⟨List.mem_of_getElem? (i := 75) rfl, rfl⟩
theorem tw_728 : (.instanceMethod yX12_goesOn : Cond) ∈ lw_tbl ∧ goodWord (.instanceMethod yX12_goesOn) = true := ⟨gp_t8 (List.mem_of_getElem? (i := 61) rfl), rfl⟩
theorem tw_729 : (.methodLink RX12 438 yX12_goesOn : Cond) ∈ lw_tbl ∧ goodWord (.methodLink RX12 438 yX12_goesOn) = true := ⟨gp_t8 (List.mem_of_getElem? (i := 59) rfl), rfl⟩
theorem tw_730 : (.code yX12_goesOn cX12_goesOn 1 none : Cond) ∈ lw_tbl ∧ goodWord (.code yX12_goesOn cX12_goesOn 1 none) = true := ⟨gp_t8 (List.mem_of_getElem? (i := 62) rfl), rfl⟩
theorem tw_731 : (.fieldLink RX12 435 "GhostPaneModel" "from" "I" : Cond) ∈ lw_tbl ∧ goodWord (.fieldLink RX12 435 "GhostPaneModel" "from" "I") = true := ⟨gp_t6 (List.mem_of_getElem? (i := 200) rfl), rfl⟩
theorem tw_732 : (.code yX12_moves cX12_moves 4 none : Cond) ∈ lw_tbl ∧ goodWord (.code yX12_moves cX12_moves 4 none) = true := ⟨gp_t8 (List.mem_of_getElem? (i := 58) rfl), rfl⟩
theorem tw_733 : (.selects RX12 yX12_holds yX12_holds : Cond) ∈ lw_tbl ∧ goodWord (.selects RX12 yX12_holds yX12_holds) = true := ⟨List.mem_of_getElem? (i := 73) rfl, rfl⟩
theorem tw_734 : (.instanceMethod yX12_holds : Cond) ∈ lw_tbl ∧ goodWord (.instanceMethod yX12_holds) = true := ⟨gp_t8 (List.mem_of_getElem? (i := 53) rfl), rfl⟩
theorem tw_735 : (.methodLink RX12 444 yX12_holds : Cond) ∈ lw_tbl ∧ goodWord (.methodLink RX12 444 yX12_holds) = true := ⟨gp_t8 (List.mem_of_getElem? (i := 51) rfl), rfl⟩
theorem tw_736 : (.code yX12_holds cX12_holds 3 none : Cond) ∈ lw_tbl ∧ goodWord (.code yX12_holds cX12_holds 3 none) = true := ⟨gp_t8 (List.mem_of_getElem? (i := 54) rfl), rfl⟩
theorem tw_737 : (.code yX12_carries cX12_carries 5 (some .int) : Cond) ∈ lw_tbl ∧ goodWord (.code yX12_carries cX12_carries 5 (some .int)) = true := ⟨gp_t8 (List.mem_of_getElem? (i := 50) rfl), rfl⟩
theorem tw_738 : (.fieldLink RX12 447 "GhostPaneModel" "piled" "I" : Cond) ∈ lw_tbl ∧ goodWord (.fieldLink RX12 447 "GhostPaneModel" "piled" "I") = true := ⟨gp_t6 (List.mem_of_getElem? (i := 205) rfl), rfl⟩
theorem tw_739 : (.fieldLink RX12 387 "GhostPaneModel" "light" "[I" : Cond) ∈ lw_tbl ∧ goodWord (.fieldLink RX12 387 "GhostPaneModel" "light" "[I") = true := ⟨gp_t6 (List.mem_of_getElem? (i := 198) rfl), rfl⟩
theorem tw_740 : (.fieldLink RX12 384 "GhostPaneModel" "height" "[I" : Cond) ∈ lw_tbl ∧ goodWord (.fieldLink RX12 384 "GhostPaneModel" "height" "[I") = true := ⟨gp_t6 (List.mem_of_getElem? (i := 197) rfl), rfl⟩
theorem tw_741 : (.fieldLink RX12 381 "GhostPaneModel" "place" "[I" : Cond) ∈ lw_tbl ∧ goodWord (.fieldLink RX12 381 "GhostPaneModel" "place" "[I") = true := ⟨gp_t6 (List.mem_of_getElem? (i := 196) rfl), rfl⟩
theorem tw_742 : (.fieldLink RX12 432 "GhostPaneModel" "now" "I" : Cond) ∈ lw_tbl ∧ goodWord (.fieldLink RX12 432 "GhostPaneModel" "now" "I") = true := ⟨gp_t6 (List.mem_of_getElem? (i := 199) rfl), rfl⟩
theorem tw_743 : (.code yX12_walks cX12_walks 2 none : Cond) ∈ lw_tbl ∧ goodWord (.code yX12_walks cX12_walks 2 none) = true := ⟨gp_t8 (List.mem_of_getElem? (i := 46) rfl), rfl⟩
theorem tw_744 : (.fieldLink RX12 378 "GhostPaneModel" "faultPlace" "I" : Cond) ∈ lw_tbl ∧ goodWord (.fieldLink RX12 378 "GhostPaneModel" "faultPlace" "I") = true := ⟨gp_t6 (List.mem_of_getElem? (i := 164) rfl), rfl⟩
theorem tw_745 : (.fieldLink RX12 470 "GhostPaneModel" "fault" "I" : Cond) ∈ lw_tbl ∧ goodWord (.fieldLink RX12 470 "GhostPaneModel" "fault" "I") = true := ⟨gp_t6 (List.mem_of_getElem? (i := 163) rfl), rfl⟩
theorem tw_746 : (.selects RX12 yX12_reads yX12_reads : Cond) ∈ lw_tbl ∧ goodWord (.selects RX12 yX12_reads yX12_reads) = true := ⟨List.mem_of_getElem? (i := 53) rfl, rfl⟩
theorem tw_747 : (.instanceMethod yX12_reads : Cond) ∈ lw_tbl ∧ goodWord (.instanceMethod yX12_reads) = true := ⟨gp_t7 (List.mem_of_getElem? (i := 203) rfl), rfl⟩
theorem tw_748 : (.methodLink RX12 467 yX12_reads : Cond) ∈ lw_tbl ∧ goodWord (.methodLink RX12 467 yX12_reads) = true := ⟨gp_t7 (List.mem_of_getElem? (i := 201) rfl), rfl⟩
theorem tw_749 : (.selects RX12 yX12_closes yX12_closes : Cond) ∈ lw_tbl ∧ goodWord (.selects RX12 yX12_closes yX12_closes) = true := ⟨List.mem_of_getElem? (i := 55) rfl, rfl⟩
theorem tw_750 : (.instanceMethod yX12_closes : Cond) ∈ lw_tbl ∧ goodWord (.instanceMethod yX12_closes) = true := ⟨gp_t7 (List.mem_of_getElem? (i := 211) rfl), rfl⟩
theorem tw_751 : (.methodLink RX12 366 yX12_closes : Cond) ∈ lw_tbl ∧ goodWord (.methodLink RX12 366 yX12_closes) = true := ⟨gp_t7 (List.mem_of_getElem? (i := 209) rfl), rfl⟩
theorem tw_752 : (.constantLong RX12 292 1000000 : Cond) ∈ lw_tbl ∧ goodWord (.constantLong RX12 292 1000000) = true := ⟨gp_t7 (List.mem_of_getElem? (i := 213) rfl), rfl⟩
theorem tw_753 : (.fieldLink RX12 277 "GhostPaneModel" "endOf" "[I" : Cond) ∈ lw_tbl ∧ goodWord (.fieldLink RX12 277 "GhostPaneModel" "endOf" "[I") = true := ⟨gp_t6 (List.mem_of_getElem? (i := 182) rfl), rfl⟩
theorem tw_754 : (.code yX12_closes cX12_closes 6 none : Cond) ∈ lw_tbl ∧ goodWord (.code yX12_closes cX12_closes 6 none) = true := ⟨gp_t7 (List.mem_of_getElem? (i := 212) rfl), rfl⟩
theorem tw_755 : (.selects RX12 yX12_statement yX12_statement : Cond) ∈ lw_tbl ∧ goodWord (.selects RX12 yX12_statement yX12_statement) = true := ⟨List.mem_of_getElem? (i := 60) rfl, rfl⟩
theorem tw_756 : (.instanceMethod yX12_statement : Cond) ∈ lw_tbl ∧ goodWord (.instanceMethod yX12_statement) = true := ⟨gp_t7 (List.mem_of_getElem? (i := 233) rfl), rfl⟩
theorem tw_757 : (.methodLink RX12 369 yX12_statement : Cond) ∈ lw_tbl ∧ goodWord (.methodLink RX12 369 yX12_statement) = true := ⟨gp_t7 (List.mem_of_getElem? (i := 231) rfl), rfl⟩
theorem tw_758 : (.fieldLink RX12 325 "GhostPaneModel" "toWord" "[C" : Cond) ∈ lw_tbl ∧ goodWord (.fieldLink RX12 325 "GhostPaneModel" "toWord" "[C") = true := ⟨gp_t6 (List.mem_of_getElem? (i := 168) rfl), rfl⟩
theorem tw_759 : (.fieldLink RX12 332 "GhostPaneModel" "inWord" "[C" : Cond) ∈ lw_tbl ∧ goodWord (.fieldLink RX12 332 "GhostPaneModel" "inWord" "[C") = true := ⟨gp_t6 (List.mem_of_getElem? (i := 169) rfl), rfl⟩
theorem tw_760 : (.selects RX12 yX12_asks yX12_asks : Cond) ∈ lw_tbl ∧ goodWord (.selects RX12 yX12_asks yX12_asks) = true := ⟨List.mem_of_getElem? (i := 64) rfl, rfl⟩
theorem tw_761 : (.instanceMethod yX12_asks : Cond) ∈ lw_tbl ∧ goodWord (.instanceMethod yX12_asks) = true := ⟨gp_t8 (List.mem_of_getElem? (i := 15) rfl), rfl⟩
theorem tw_762 : (.methodLink RX12 328 yX12_asks : Cond) ∈ lw_tbl ∧ goodWord (.methodLink RX12 328 yX12_asks) = true := ⟨gp_t8 (List.mem_of_getElem? (i := 13) rfl), rfl⟩
theorem tw_763 : (.code yX12_asks cX12_asks 2 none : Cond) ∈ lw_tbl ∧ goodWord (.code yX12_asks cX12_asks 2 none) = true := ⟨gp_t8 (List.mem_of_getElem? (i := 16) rfl), rfl⟩
theorem tw_764 : (.fieldLink RX12 347 "GhostPaneModel" "offWord" "[C" : Cond) ∈ lw_tbl ∧ goodWord (.fieldLink RX12 347 "GhostPaneModel" "offWord" "[C") = true := ⟨gp_t6 (List.mem_of_getElem? (i := 174) rfl), rfl⟩
theorem tw_765 : (.fieldLink RX12 344 "GhostPaneModel" "onWord" "[C" : Cond) ∈ lw_tbl ∧ goodWord (.fieldLink RX12 344 "GhostPaneModel" "onWord" "[C") = true := ⟨gp_t6 (List.mem_of_getElem? (i := 173) rfl), rfl⟩
theorem tw_766 : (.selects RX12 yX12_number yX12_number : Cond) ∈ lw_tbl ∧ goodWord (.selects RX12 yX12_number yX12_number) = true := ⟨List.mem_of_getElem? (i := 62) rfl, rfl⟩
theorem tw_767 : (.instanceMethod yX12_number : Cond) ∈ lw_tbl ∧ goodWord (.instanceMethod yX12_number) = true := ⟨gp_t8 (List.mem_of_getElem? (i := 4) rfl), rfl⟩
theorem tw_768 : (.methodLink RX12 318 yX12_number : Cond) ∈ lw_tbl ∧ goodWord (.methodLink RX12 318 yX12_number) = true := ⟨gp_t8 (List.mem_of_getElem? (i := 2) rfl), rfl⟩
theorem tw_769 : (.static yX12_isDigit : Cond) ∈ lw_tbl ∧ goodWord (.static yX12_isDigit) = true := ⟨gp_t8 (List.mem_of_getElem? (i := 7) rfl), rfl⟩
theorem tw_770 : (.methodLink RX12 221 yX12_isDigit : Cond) ∈ lw_tbl ∧ goodWord (.methodLink RX12 221 yX12_isDigit) = true := ⟨gp_t8 (List.mem_of_getElem? (i := 6) rfl), rfl⟩
theorem tw_771 : (.code yX12_isDigit cX12_isDigit 1 (some .boolean) : Cond) ∈ lw_tbl ∧ goodWord (.code yX12_isDigit cX12_isDigit 1 (some .boolean)) = true := ⟨gp_t8 (List.mem_of_getElem? (i := 8) rfl), rfl⟩
theorem tw_772 : (.code yX12_number cX12_number 5 (some .int) : Cond) ∈ lw_tbl ∧ goodWord (.code yX12_number cX12_number 5 (some .int)) = true := ⟨gp_t8 (List.mem_of_getElem? (i := 5) rfl), rfl⟩
theorem tw_773 : (.selects RX12 yX12_figure yX12_figure : Cond) ∈ lw_tbl ∧ goodWord (.selects RX12 yX12_figure yX12_figure) = true := ⟨List.mem_of_getElem? (i := 66) rfl, rfl⟩
theorem tw_774 : (.instanceMethod yX12_figure : Cond) ∈ lw_tbl ∧ goodWord (.instanceMethod yX12_figure) = true := ⟨gp_t8 (List.mem_of_getElem? (i := 23) rfl), rfl⟩
theorem tw_775 : (.methodLink RX12 356 yX12_figure : Cond) ∈ lw_tbl ∧ goodWord (.methodLink RX12 356 yX12_figure) = true := ⟨gp_t8 (List.mem_of_getElem? (i := 21) rfl), rfl⟩
theorem tw_776 : (.selects RX12 yX12_isOpenName yX12_isOpenName : Cond) ∈ lw_tbl ∧ goodWord (.selects RX12 yX12_isOpenName yX12_isOpenName) = true := ⟨List.mem_of_getElem? (i := 68) rfl, rfl⟩
theorem tw_777 : (.instanceMethod yX12_isOpenName : Cond) ∈ lw_tbl ∧ goodWord (.instanceMethod yX12_isOpenName) = true := ⟨gp_t8 (List.mem_of_getElem? (i := 33) rfl), rfl⟩
theorem tw_778 : (.methodLink RX12 306 yX12_isOpenName : Cond) ∈ lw_tbl ∧ goodWord (.methodLink RX12 306 yX12_isOpenName) = true := ⟨gp_t8 (List.mem_of_getElem? (i := 31) rfl), rfl⟩
theorem tw_779 : (.code yX12_isOpenName cX12_isOpenName 3 (some .boolean) : Cond) ∈ lw_tbl ∧ goodWord (.code yX12_isOpenName cX12_isOpenName 3 (some .boolean)) = true := ⟨gp_t8 (List.mem_of_getElem? (i := 34) rfl), rfl⟩
theorem tw_780 : (.selects RX12 yX12_opens yX12_opens : Cond) ∈ lw_tbl ∧ goodWord (.selects RX12 yX12_opens yX12_opens) = true := ⟨List.mem_of_getElem? (i := 65) rfl, rfl⟩
theorem tw_781 : (.instanceMethod yX12_opens : Cond) ∈ lw_tbl ∧ goodWord (.instanceMethod yX12_opens) = true := ⟨gp_t8 (List.mem_of_getElem? (i := 19) rfl), rfl⟩
theorem tw_782 : (.methodLink RX12 310 yX12_opens : Cond) ∈ lw_tbl ∧ goodWord (.methodLink RX12 310 yX12_opens) = true := ⟨gp_t8 (List.mem_of_getElem? (i := 17) rfl), rfl⟩
theorem tw_783 : (.fieldLink RX12 267 "GhostPaneModel" "openName" "[J" : Cond) ∈ lw_tbl ∧ goodWord (.fieldLink RX12 267 "GhostPaneModel" "openName" "[J") = true := ⟨gp_t6 (List.mem_of_getElem? (i := 194) rfl), rfl⟩
theorem tw_784 : (.fieldLink RX12 258 "GhostPaneModel" "openCode" "[I" : Cond) ∈ lw_tbl ∧ goodWord (.fieldLink RX12 258 "GhostPaneModel" "openCode" "[I") = true := ⟨gp_t6 (List.mem_of_getElem? (i := 190) rfl), rfl⟩
theorem tw_785 : (.selects RX12 yX12_asksSign yX12_asksSign : Cond) ∈ lw_tbl ∧ goodWord (.selects RX12 yX12_asksSign yX12_asksSign) = true := ⟨List.mem_of_getElem? (i := 58) rfl, rfl⟩
theorem tw_786 : (.instanceMethod yX12_asksSign : Cond) ∈ lw_tbl ∧ goodWord (.instanceMethod yX12_asksSign) = true := ⟨gp_t7 (List.mem_of_getElem? (i := 225) rfl), rfl⟩
theorem tw_787 : (.methodLink RX12 250 yX12_asksSign : Cond) ∈ lw_tbl ∧ goodWord (.methodLink RX12 250 yX12_asksSign) = true := ⟨gp_t7 (List.mem_of_getElem? (i := 223) rfl), rfl⟩
theorem tw_788 : (.code yX12_asksSign cX12_asksSign 2 none : Cond) ∈ lw_tbl ∧ goodWord (.code yX12_asksSign cX12_asksSign 2 none) = true := ⟨gp_t7 (List.mem_of_getElem? (i := 226) rfl), rfl⟩
theorem tw_789 : (.code yX12_opens cX12_opens 6 none : Cond) ∈ lw_tbl ∧ goodWord (.code yX12_opens cX12_opens 6 none) = true := ⟨gp_t8 (List.mem_of_getElem? (i := 20) rfl), rfl⟩
theorem tw_790 : (.code yX12_figure cX12_figure 4 none : Cond) ∈ lw_tbl ∧ goodWord (.code yX12_figure cX12_figure 4 none) = true := ⟨gp_t8 (List.mem_of_getElem? (i := 24) rfl), rfl⟩
theorem tw_791 : (.fieldLink RX12 353 "GhostPaneModel" "figureWord" "[C" : Cond) ∈ lw_tbl ∧ goodWord (.fieldLink RX12 353 "GhostPaneModel" "figureWord" "[C") = true := ⟨gp_t6 (List.mem_of_getElem? (i := 176) rfl), rfl⟩
theorem tw_792 : (.selects RX12 yX12_does yX12_does : Cond) ∈ lw_tbl ∧ goodWord (.selects RX12 yX12_does yX12_does) = true := ⟨List.mem_of_getElem? (i := 70) rfl, rfl⟩
theorem tw_793 : (.instanceMethod yX12_does : Cond) ∈ lw_tbl ∧ goodWord (.instanceMethod yX12_does) = true := ⟨gp_t8 (List.mem_of_getElem? (i := 41) rfl), rfl⟩
theorem tw_794 : (.methodLink RX12 362 yX12_does : Cond) ∈ lw_tbl ∧ goodWord (.methodLink RX12 362 yX12_does) = true := ⟨gp_t8 (List.mem_of_getElem? (i := 39) rfl), rfl⟩
theorem tw_795 : (.selects RX12 yX12_tells yX12_tells : Cond) ∈ lw_tbl ∧ goodWord (.selects RX12 yX12_tells yX12_tells) = true := ⟨List.mem_of_getElem? (i := 57) rfl, rfl⟩
theorem tw_796 : (.instanceMethod yX12_tells : Cond) ∈ lw_tbl ∧ goodWord (.instanceMethod yX12_tells) = true := ⟨gp_t7 (List.mem_of_getElem? (i := 221) rfl), rfl⟩
theorem tw_797 : (.methodLink RX12 297 yX12_tells : Cond) ∈ lw_tbl ∧ goodWord (.methodLink RX12 297 yX12_tells) = true := ⟨gp_t7 (List.mem_of_getElem? (i := 219) rfl), rfl⟩
theorem tw_798 : (.fieldLink RX12 286 "GhostPaneModel" "lightOf" "[I" : Cond) ∈ lw_tbl ∧ goodWord (.fieldLink RX12 286 "GhostPaneModel" "lightOf" "[I") = true := ⟨gp_t6 (List.mem_of_getElem? (i := 185) rfl), rfl⟩
theorem tw_799 : (.fieldLink RX12 283 "GhostPaneModel" "atOf" "[I" : Cond) ∈ lw_tbl ∧ goodWord (.fieldLink RX12 283 "GhostPaneModel" "atOf" "[I") = true := ⟨gp_t6 (List.mem_of_getElem? (i := 184) rfl), rfl⟩
theorem tw_800 : (.code yX12_tells cX12_tells 2 none : Cond) ∈ lw_tbl ∧ goodWord (.code yX12_tells cX12_tells 2 none) = true := ⟨gp_t7 (List.mem_of_getElem? (i := 222) rfl), rfl⟩
theorem tw_801 : (.selects RX12 yX12_adds yX12_adds : Cond) ∈ lw_tbl ∧ goodWord (.selects RX12 yX12_adds yX12_adds) = true := ⟨List.mem_of_getElem? (i := 56) rfl, rfl⟩
theorem tw_802 : (.instanceMethod yX12_adds : Cond) ∈ lw_tbl ∧ goodWord (.instanceMethod yX12_adds) = true := ⟨gp_t7 (List.mem_of_getElem? (i := 217) rfl), rfl⟩
theorem tw_803 : (.methodLink RX12 294 yX12_adds : Cond) ∈ lw_tbl ∧ goodWord (.methodLink RX12 294 yX12_adds) = true := ⟨gp_t7 (List.mem_of_getElem? (i := 215) rfl), rfl⟩
theorem tw_804 : (.constant RX12 249 1000000 : Cond) ∈ lw_tbl ∧ goodWord (.constant RX12 249 1000000) = true := ⟨gp_t7 (List.mem_of_getElem? (i := 214) rfl), rfl⟩
theorem tw_805 : (.code yX12_adds cX12_adds 2 none : Cond) ∈ lw_tbl ∧ goodWord (.code yX12_adds cX12_adds 2 none) = true := ⟨gp_t7 (List.mem_of_getElem? (i := 218) rfl), rfl⟩
theorem tw_806 : (.fieldLink RX12 289 "GhostPaneModel" "figureCode" "[I" : Cond) ∈ lw_tbl ∧ goodWord (.fieldLink RX12 289 "GhostPaneModel" "figureCode" "[I") = true := ⟨gp_t6 (List.mem_of_getElem? (i := 188) rfl), rfl⟩
theorem tw_807 : (.fieldLink RX12 280 "GhostPaneModel" "countsOf" "[I" : Cond) ∈ lw_tbl ∧ goodWord (.fieldLink RX12 280 "GhostPaneModel" "countsOf" "[I") = true := ⟨gp_t6 (List.mem_of_getElem? (i := 183) rfl), rfl⟩
theorem tw_808 : (.selects RX12 yX12_codeOf yX12_codeOf : Cond) ∈ lw_tbl ∧ goodWord (.selects RX12 yX12_codeOf yX12_codeOf) = true := ⟨List.mem_of_getElem? (i := 63) rfl, rfl⟩
theorem tw_809 : (.instanceMethod yX12_codeOf : Cond) ∈ lw_tbl ∧ goodWord (.instanceMethod yX12_codeOf) = true := ⟨gp_t8 (List.mem_of_getElem? (i := 11) rfl), rfl⟩
theorem tw_810 : (.methodLink RX12 254 yX12_codeOf : Cond) ∈ lw_tbl ∧ goodWord (.methodLink RX12 254 yX12_codeOf) = true := ⟨gp_t8 (List.mem_of_getElem? (i := 9) rfl), rfl⟩
theorem tw_811 : (.fieldLink RX12 240 "GhostPaneModel" "second" "[I" : Cond) ∈ lw_tbl ∧ goodWord (.fieldLink RX12 240 "GhostPaneModel" "second" "[I") = true := ⟨gp_t6 (List.mem_of_getElem? (i := 181) rfl), rfl⟩
theorem tw_812 : (.fieldLink RX12 237 "GhostPaneModel" "first" "[I" : Cond) ∈ lw_tbl ∧ goodWord (.fieldLink RX12 237 "GhostPaneModel" "first" "[I") = true := ⟨gp_t6 (List.mem_of_getElem? (i := 180) rfl), rfl⟩
theorem tw_813 : (.fieldLink RX12 231 "GhostPaneModel" "code" "[I" : Cond) ∈ lw_tbl ∧ goodWord (.fieldLink RX12 231 "GhostPaneModel" "code" "[I") = true := ⟨gp_t6 (List.mem_of_getElem? (i := 179) rfl), rfl⟩
theorem tw_814 : (.code yX12_codeOf cX12_codeOf 4 (some .int) : Cond) ∈ lw_tbl ∧ goodWord (.code yX12_codeOf cX12_codeOf 4 (some .int)) = true := ⟨gp_t8 (List.mem_of_getElem? (i := 12) rfl), rfl⟩
theorem tw_815 : (.selects RX12 yX12_figureOf yX12_figureOf : Cond) ∈ lw_tbl ∧ goodWord (.selects RX12 yX12_figureOf yX12_figureOf) = true := ⟨List.mem_of_getElem? (i := 69) rfl, rfl⟩
theorem tw_816 : (.instanceMethod yX12_figureOf : Cond) ∈ lw_tbl ∧ goodWord (.instanceMethod yX12_figureOf) = true := ⟨gp_t8 (List.mem_of_getElem? (i := 37) rfl), rfl⟩
theorem tw_817 : (.methodLink RX12 300 yX12_figureOf : Cond) ∈ lw_tbl ∧ goodWord (.methodLink RX12 300 yX12_figureOf) = true := ⟨gp_t8 (List.mem_of_getElem? (i := 35) rfl), rfl⟩
theorem tw_818 : (.fieldLink RX12 274 "GhostPaneModel" "figureName" "[J" : Cond) ∈ lw_tbl ∧ goodWord (.fieldLink RX12 274 "GhostPaneModel" "figureName" "[J") = true := ⟨gp_t6 (List.mem_of_getElem? (i := 187) rfl), rfl⟩
theorem tw_819 : (.code yX12_figureOf cX12_figureOf 4 (some .int) : Cond) ∈ lw_tbl ∧ goodWord (.code yX12_figureOf cX12_figureOf 4 (some .int)) = true := ⟨gp_t8 (List.mem_of_getElem? (i := 38) rfl), rfl⟩
theorem tw_820 : (.selects RX12 yX12_name yX12_name : Cond) ∈ lw_tbl ∧ goodWord (.selects RX12 yX12_name yX12_name) = true := ⟨List.mem_of_getElem? (i := 67) rfl, rfl⟩
theorem tw_821 : (.instanceMethod yX12_name : Cond) ∈ lw_tbl ∧ goodWord (.instanceMethod yX12_name) = true := ⟨gp_t8 (List.mem_of_getElem? (i := 27) rfl), rfl⟩
theorem tw_822 : (.methodLink RX12 303 yX12_name : Cond) ∈ lw_tbl ∧ goodWord (.methodLink RX12 303 yX12_name) = true := ⟨gp_t8 (List.mem_of_getElem? (i := 25) rfl), rfl⟩
theorem tw_823 : (.constantLong RX12 229 97 : Cond) ∈ lw_tbl ∧ goodWord (.constantLong RX12 229 97) = true := ⟨gp_t8 (List.mem_of_getElem? (i := 30) rfl), rfl⟩
theorem tw_824 : (.constantLong RX12 227 27 : Cond) ∈ lw_tbl ∧ goodWord (.constantLong RX12 227 27) = true := ⟨gp_t8 (List.mem_of_getElem? (i := 29) rfl), rfl⟩
theorem tw_825 : (.fieldLink RX12 224 "GhostPaneModel" "namePlace" "I" : Cond) ∈ lw_tbl ∧ goodWord (.fieldLink RX12 224 "GhostPaneModel" "namePlace" "I") = true := ⟨gp_t6 (List.mem_of_getElem? (i := 165) rfl), rfl⟩
theorem tw_826 : (.code yX12_name cX12_name 3 (some .long) : Cond) ∈ lw_tbl ∧ goodWord (.code yX12_name cX12_name 3 (some .long)) = true := ⟨gp_t8 (List.mem_of_getElem? (i := 28) rfl), rfl⟩
theorem tw_827 : (.code yX12_does cX12_does 4 none : Cond) ∈ lw_tbl ∧ goodWord (.code yX12_does cX12_does 4 none) = true := ⟨gp_t8 (List.mem_of_getElem? (i := 42) rfl), rfl⟩
theorem tw_828 : (.selects RX12 yX12_fail yX12_fail : Cond) ∈ lw_tbl ∧ goodWord (.selects RX12 yX12_fail yX12_fail) = true := ⟨List.mem_of_getElem? (i := 59) rfl, rfl⟩
theorem tw_829 : (.instanceMethod yX12_fail : Cond) ∈ lw_tbl ∧ goodWord (.instanceMethod yX12_fail) = true := ⟨gp_t7 (List.mem_of_getElem? (i := 229) rfl), rfl⟩
theorem tw_830 : (.methodLink RX12 217 yX12_fail : Cond) ∈ lw_tbl ∧ goodWord (.methodLink RX12 217 yX12_fail) = true := ⟨gp_t7 (List.mem_of_getElem? (i := 227) rfl), rfl⟩
theorem tw_831 : (.code yX12_fail cX12_fail 3 none : Cond) ∈ lw_tbl ∧ goodWord (.code yX12_fail cX12_fail 3 none) = true := ⟨gp_t7 (List.mem_of_getElem? (i := 230) rfl), rfl⟩
theorem tw_832 : (.fieldLink RX12 359 "GhostPaneModel" "doWord" "[C" : Cond) ∈ lw_tbl ∧ goodWord (.fieldLink RX12 359 "GhostPaneModel" "doWord" "[C") = true := ⟨gp_t6 (List.mem_of_getElem? (i := 177) rfl), rfl⟩
theorem tw_833 : (.fieldLink RX12 350 "GhostPaneModel" "repeatWord" "[C" : Cond) ∈ lw_tbl ∧ goodWord (.fieldLink RX12 350 "GhostPaneModel" "repeatWord" "[C") = true := ⟨gp_t6 (List.mem_of_getElem? (i := 175) rfl), rfl⟩
theorem tw_834 : (.fieldLink RX12 341 "GhostPaneModel" "lightWord" "[C" : Cond) ∈ lw_tbl ∧ goodWord (.fieldLink RX12 341 "GhostPaneModel" "lightWord" "[C") = true := ⟨gp_t6 (List.mem_of_getElem? (i := 172) rfl), rfl⟩
theorem tw_835 : (.fieldLink RX12 338 "GhostPaneModel" "riseWord" "[C" : Cond) ∈ lw_tbl ∧ goodWord (.fieldLink RX12 338 "GhostPaneModel" "riseWord" "[C") = true := ⟨gp_t6 (List.mem_of_getElem? (i := 171) rfl), rfl⟩
theorem tw_836 : (.fieldLink RX12 335 "GhostPaneModel" "stayWord" "[C" : Cond) ∈ lw_tbl ∧ goodWord (.fieldLink RX12 335 "GhostPaneModel" "stayWord" "[C") = true := ⟨gp_t6 (List.mem_of_getElem? (i := 170) rfl), rfl⟩
theorem tw_837 : (.fieldLink RX12 322 "GhostPaneModel" "goWord" "[C" : Cond) ∈ lw_tbl ∧ goodWord (.fieldLink RX12 322 "GhostPaneModel" "goWord" "[C") = true := ⟨gp_t6 (List.mem_of_getElem? (i := 167) rfl), rfl⟩
theorem tw_838 : (.selects RX12 yX12_takes yX12_takes : Cond) ∈ lw_tbl ∧ goodWord (.selects RX12 yX12_takes yX12_takes) = true := ⟨List.mem_of_getElem? (i := 61) rfl, rfl⟩
theorem tw_839 : (.instanceMethod yX12_takes : Cond) ∈ lw_tbl ∧ goodWord (.instanceMethod yX12_takes) = true := ⟨gp_t7 (List.mem_of_getElem? (i := 237) rfl), rfl⟩
theorem tw_840 : (.methodLink RX12 213 yX12_takes : Cond) ∈ lw_tbl ∧ goodWord (.methodLink RX12 213 yX12_takes) = true := ⟨gp_t7 (List.mem_of_getElem? (i := 235) rfl), rfl⟩
theorem tw_841 : (.static yX12_isLetter : Cond) ∈ lw_tbl ∧ goodWord (.static yX12_isLetter) = true := ⟨gp_t8 (List.mem_of_getElem? (i := 0) rfl), rfl⟩
theorem tw_842 : (.methodLink RX12 207 yX12_isLetter : Cond) ∈ lw_tbl ∧ goodWord (.methodLink RX12 207 yX12_isLetter) = true := ⟨gp_t7 (List.mem_of_getElem? (i := 239) rfl), rfl⟩
theorem tw_843 : (.code yX12_isLetter cX12_isLetter 1 (some .boolean) : Cond) ∈ lw_tbl ∧ goodWord (.code yX12_isLetter cX12_isLetter 1 (some .boolean)) = true := ⟨gp_t8 (List.mem_of_getElem? (i := 1) rfl), rfl⟩
theorem tw_844 : (.code yX12_takes cX12_takes 4 (some .boolean) : Cond) ∈ lw_tbl ∧ goodWord (.code yX12_takes cX12_takes 4 (some .boolean)) = true := ⟨gp_t7 (List.mem_of_getElem? (i := 238) rfl), rfl⟩
theorem tw_845 : (.fieldLink RX12 314 "GhostPaneModel" "atWord" "[C" : Cond) ∈ lw_tbl ∧ goodWord (.fieldLink RX12 314 "GhostPaneModel" "atWord" "[C") = true := ⟨gp_t6 (List.mem_of_getElem? (i := 166) rfl), rfl⟩
theorem tw_846 : (.code yX12_statement cX12_statement 4 (some .boolean) : Cond) ∈ lw_tbl ∧ goodWord (.code yX12_statement cX12_statement 4 (some .boolean)) = true := ⟨gp_t7 (List.mem_of_getElem? (i := 234) rfl), rfl⟩
theorem tw_847 : (.selects RX12 yX12_next yX12_next : Cond) ∈ lw_tbl ∧ goodWord (.selects RX12 yX12_next yX12_next) = true := ⟨List.mem_of_getElem? (i := 54) rfl, rfl⟩
theorem tw_848 : (.instanceMethod yX12_next : Cond) ∈ lw_tbl ∧ goodWord (.instanceMethod yX12_next) = true := ⟨gp_t7 (List.mem_of_getElem? (i := 207) rfl), rfl⟩
theorem tw_849 : (.methodLink RX12 204 yX12_next : Cond) ∈ lw_tbl ∧ goodWord (.methodLink RX12 204 yX12_next) = true := ⟨gp_t7 (List.mem_of_getElem? (i := 205) rfl), rfl⟩
theorem tw_850 : (.code yX12_next cX12_next 1 (some .int) : Cond) ∈ lw_tbl ∧ goodWord (.code yX12_next cX12_next 1 (some .int)) = true := ⟨gp_t7 (List.mem_of_getElem? (i := 208) rfl), rfl⟩
theorem tw_851 : (.fieldLink RX12 264 "GhostPaneModel" "openLight" "[I" : Cond) ∈ lw_tbl ∧ goodWord (.fieldLink RX12 264 "GhostPaneModel" "openLight" "[I") = true := ⟨gp_t6 (List.mem_of_getElem? (i := 193) rfl), rfl⟩
theorem tw_852 : (.fieldLink RX12 261 "GhostPaneModel" "openAt" "[I" : Cond) ∈ lw_tbl ∧ goodWord (.fieldLink RX12 261 "GhostPaneModel" "openAt" "[I") = true := ⟨gp_t6 (List.mem_of_getElem? (i := 192) rfl), rfl⟩
theorem tw_853 : (.fieldLink RX12 243 "GhostPaneModel" "openCounts" "[I" : Cond) ∈ lw_tbl ∧ goodWord (.fieldLink RX12 243 "GhostPaneModel" "openCounts" "[I") = true := ⟨gp_t6 (List.mem_of_getElem? (i := 191) rfl), rfl⟩
theorem tw_854 : (.fieldLink RX12 246 "GhostPaneModel" "open" "I" : Cond) ∈ lw_tbl ∧ goodWord (.fieldLink RX12 246 "GhostPaneModel" "open" "I") = true := ⟨gp_t6 (List.mem_of_getElem? (i := 189) rfl), rfl⟩
theorem tw_855 : (.fieldLink RX12 271 "GhostPaneModel" "figures" "I" : Cond) ∈ lw_tbl ∧ goodWord (.fieldLink RX12 271 "GhostPaneModel" "figures" "I") = true := ⟨gp_t6 (List.mem_of_getElem? (i := 186) rfl), rfl⟩
theorem tw_856 : (.fieldLink RX12 234 "GhostPaneModel" "codes" "I" : Cond) ∈ lw_tbl ∧ goodWord (.fieldLink RX12 234 "GhostPaneModel" "codes" "I") = true := ⟨gp_t6 (List.mem_of_getElem? (i := 178) rfl), rfl⟩
theorem tw_857 : (.code yX12_reads cX12_reads 3 none : Cond) ∈ lw_tbl ∧ goodWord (.code yX12_reads cX12_reads 3 none) = true := ⟨gp_t7 (List.mem_of_getElem? (i := 204) rfl), rfl⟩
theorem tw_858 : (.fieldLink RX12 195 "GhostPaneModel" "badPlace" "I" : Cond) ∈ lw_tbl ∧ goodWord (.fieldLink RX12 195 "GhostPaneModel" "badPlace" "I") = true := ⟨gp_t6 (List.mem_of_getElem? (i := 162) rfl), rfl⟩
theorem tw_859 : (.fieldLink RX12 192 "GhostPaneModel" "bad" "I" : Cond) ∈ lw_tbl ∧ goodWord (.fieldLink RX12 192 "GhostPaneModel" "bad" "I") = true := ⟨gp_t6 (List.mem_of_getElem? (i := 161) rfl), rfl⟩
theorem tw_860 : (.fieldLink RX12 210 "GhostPaneModel" "ended" "I" : Cond) ∈ lw_tbl ∧ goodWord (.fieldLink RX12 210 "GhostPaneModel" "ended" "I") = true := ⟨gp_t6 (List.mem_of_getElem? (i := 160) rfl), rfl⟩
theorem tw_861 : (.fieldLink RX12 198 "GhostPaneModel" "at" "I" : Cond) ∈ lw_tbl ∧ goodWord (.fieldLink RX12 198 "GhostPaneModel" "at" "I") = true := ⟨gp_t6 (List.mem_of_getElem? (i := 158) rfl), rfl⟩
theorem tw_862 : (.fieldLink RX12 201 "GhostPaneModel" "size" "I" : Cond) ∈ lw_tbl ∧ goodWord (.fieldLink RX12 201 "GhostPaneModel" "size" "I") = true := ⟨gp_t6 (List.mem_of_getElem? (i := 159) rfl), rfl⟩
theorem tw_863 : (.code yX12_walk cX12_walk 1 (some .int) : Cond) ∈ lw_tbl ∧ goodWord (.code yX12_walk cX12_walk 1 (some .int)) = true := ⟨gp_t7 (List.mem_of_getElem? (i := 200) rfl), rfl⟩
theorem tw_864 : (.selects RX12 yX12_walk yX12_walk : Cond) ∈ lw_tbl ∧ goodWord (.selects RX12 yX12_walk yX12_walk) = true := ⟨gp_t7 (List.mem_of_getElem? (i := 199) rfl), rfl⟩
theorem tw_865 : (.instanceMethod yX12_walk : Cond) ∈ lw_tbl ∧ goodWord (.instanceMethod yX12_walk) = true := ⟨gp_t7 (List.mem_of_getElem? (i := 198) rfl), rfl⟩
theorem tw_866 : (.methodLink RL 88 yX12_walk : Cond) ∈ lw_tbl ∧ goodWord (.methodLink RL 88 yX12_walk) = true := ⟨gp_t7 (List.mem_of_getElem? (i := 197) rfl), rfl⟩
theorem tw_867 : (.fieldLink RX11 240 "GhostPane$Tape" "faultPlace" "I" : Cond) ∈ lw_tbl ∧ goodWord (.fieldLink RX11 240 "GhostPane$Tape" "faultPlace" "I") = true := ⟨gp_t1 (List.mem_of_getElem? (i := 40) rfl), rfl⟩
theorem tw_868 : (.code yX11_fault cX11_fault 2 (some .int) : Cond) ∈ lw_tbl ∧ goodWord (.code yX11_fault cX11_fault 2 (some .int)) = true := ⟨gp_t4 (List.mem_of_getElem? (i := 207) rfl), rfl⟩
theorem tw_869 : (.selects RX11 yX11_fault yX11_fault : Cond) ∈ lw_tbl ∧ goodWord (.selects RX11 yX11_fault yX11_fault) = true := ⟨gp_t4 (List.mem_of_getElem? (i := 206) rfl), rfl⟩
theorem tw_870 : (.instanceMethod yX11_fault : Cond) ∈ lw_tbl ∧ goodWord (.instanceMethod yX11_fault) = true := ⟨gp_t4 (List.mem_of_getElem? (i := 205) rfl), rfl⟩
theorem tw_871 : (.methodLink RL 89 yX11_fault : Cond) ∈ lw_tbl ∧ goodWord (.methodLink RL 89 yX11_fault) = true := ⟨gp_t4 (List.mem_of_getElem? (i := 204) rfl), rfl⟩
theorem tw_872 : (.code yX12_fault cX12_fault 2 (some .int) : Cond) ∈ lw_tbl ∧ goodWord (.code yX12_fault cX12_fault 2 (some .int)) = true := ⟨gp_t8 (List.mem_of_getElem? (i := 77) rfl), rfl⟩
theorem tw_873 : (.selects RX12 yX12_fault yX12_fault : Cond) ∈ lw_tbl ∧ goodWord (.selects RX12 yX12_fault yX12_fault) = true := ⟨gp_t8 (List.mem_of_getElem? (i := 76) rfl), rfl⟩
theorem tw_874 : (.instanceMethod yX12_fault : Cond) ∈ lw_tbl ∧ goodWord (.instanceMethod yX12_fault) = true := ⟨gp_t8 (List.mem_of_getElem? (i := 75) rfl), rfl⟩
theorem tw_875 : (.methodLink RL 93 yX12_fault : Cond) ∈ lw_tbl ∧ goodWord (.methodLink RL 93 yX12_fault) = true := ⟨gp_t8 (List.mem_of_getElem? (i := 74) rfl), rfl⟩
theorem tw_876 : (.selects RX8 yX8_clashes yX8_clashes : Cond) ∈ lw_tbl ∧ goodWord (.selects RX8 yX8_clashes yX8_clashes) = true := ⟨gp_t4 (List.mem_of_getElem? (i := 231) rfl), rfl⟩
theorem tw_877 : (.instanceMethod yX8_clashes : Cond) ∈ lw_tbl ∧ goodWord (.instanceMethod yX8_clashes) = true := ⟨gp_t4 (List.mem_of_getElem? (i := 230) rfl), rfl⟩
theorem tw_878 : (.methodLink RX11 267 yX8_clashes : Cond) ∈ lw_tbl ∧ goodWord (.methodLink RX11 267 yX8_clashes) = true := ⟨gp_t4 (List.mem_of_getElem? (i := 229) rfl), rfl⟩
theorem tw_879 : (.selects RX8 yX8_isInside yX8_isInside : Cond) ∈ lw_tbl ∧ goodWord (.selects RX8 yX8_isInside yX8_isInside) = true := ⟨List.mem_of_getElem? (i := 31) rfl, rfl⟩
theorem tw_880 : (.instanceMethod yX8_isInside : Cond) ∈ lw_tbl ∧ goodWord (.instanceMethod yX8_isInside) = true := ⟨gp_t4 (List.mem_of_getElem? (i := 236) rfl), rfl⟩
theorem tw_881 : (.methodLink RX8 147 yX8_isInside : Cond) ∈ lw_tbl ∧ goodWord (.methodLink RX8 147 yX8_isInside) = true := ⟨gp_t4 (List.mem_of_getElem? (i := 234) rfl), rfl⟩
theorem tw_882 : (.code yX8_isInside cX8_isInside 8 (some .boolean) : Cond) ∈ lw_tbl ∧ goodWord (.code yX8_isInside cX8_isInside 8 (some .boolean)) = true := ⟨gp_t4 (List.mem_of_getElem? (i := 237) rfl), rfl⟩
theorem tw_883 : (.fieldLink RX8 143 "GhostPane$Room" "boxes" "[[I" : Cond) ∈ lw_tbl ∧ goodWord (.fieldLink RX8 143 "GhostPane$Room" "boxes" "[[I") = true := ⟨gp_t2 (List.mem_of_getElem? (i := 14) rfl), rfl⟩
theorem tw_884 : (.fieldLink RX8 140 "GhostPane$Room" "thingThere" "[Z" : Cond) ∈ lw_tbl ∧ goodWord (.fieldLink RX8 140 "GhostPane$Room" "thingThere" "[Z") = true := ⟨gp_t2 (List.mem_of_getElem? (i := 11) rfl), rfl⟩
theorem tw_885 : (.methodLink RX8 137 yX3_mirroredX : Cond) ∈ lw_tbl ∧ goodWord (.methodLink RX8 137 yX3_mirroredX) = true := ⟨gp_t4 (List.mem_of_getElem? (i := 233) rfl), rfl⟩
theorem tw_886 : (.code yX8_clashes cX8_clashes 7 (some .int) : Cond) ∈ lw_tbl ∧ goodWord (.code yX8_clashes cX8_clashes 7 (some .int)) = true := ⟨gp_t4 (List.mem_of_getElem? (i := 232) rfl), rfl⟩
theorem tw_887 : (.selects RX8 yX8_isHeld yX8_isHeld : Cond) ∈ lw_tbl ∧ goodWord (.selects RX8 yX8_isHeld yX8_isHeld) = true := ⟨gp_t4 (List.mem_of_getElem? (i := 223) rfl), rfl⟩
theorem tw_888 : (.instanceMethod yX8_isHeld : Cond) ∈ lw_tbl ∧ goodWord (.instanceMethod yX8_isHeld) = true := ⟨gp_t4 (List.mem_of_getElem? (i := 222) rfl), rfl⟩
theorem tw_889 : (.methodLink RX11 264 yX8_isHeld : Cond) ∈ lw_tbl ∧ goodWord (.methodLink RX11 264 yX8_isHeld) = true := ⟨gp_t4 (List.mem_of_getElem? (i := 221) rfl), rfl⟩
theorem tw_890 : (.fieldLink RX8 134 "GhostPane$Room" "hand" "I" : Cond) ∈ lw_tbl ∧ goodWord (.fieldLink RX8 134 "GhostPane$Room" "hand" "I") = true := ⟨gp_t1 (List.mem_of_getElem? (i := 226) rfl), rfl⟩
theorem tw_891 : (.code Lib.MathLoose.abs_long.x Lib.MathLoose.abs_long.code 2 (some .long) : Cond) ∈ lw_tbl ∧ goodWord (.code Lib.MathLoose.abs_long.x Lib.MathLoose.abs_long.code 2 (some .long)) = true := ⟨gp_t4 (List.mem_of_getElem? (i := 228) rfl), rfl⟩
theorem tw_892 : (.static Lib.MathLoose.abs_long.x : Cond) ∈ lw_tbl ∧ goodWord (.static Lib.MathLoose.abs_long.x) = true := ⟨gp_t4 (List.mem_of_getElem? (i := 227) rfl), rfl⟩
theorem tw_893 : (.methodLink RX8 130 Lib.MathLoose.abs_long.x : Cond) ∈ lw_tbl ∧ goodWord (.methodLink RX8 130 Lib.MathLoose.abs_long.x) = true := ⟨gp_t4 (List.mem_of_getElem? (i := 226) rfl), rfl⟩
theorem tw_894 : (.fieldLink RX8 127 "GhostPane$Room" "floor" "I" : Cond) ∈ lw_tbl ∧ goodWord (.fieldLink RX8 127 "GhostPane$Room" "floor" "I") = true := ⟨gp_t1 (List.mem_of_getElem? (i := 223) rfl), rfl⟩
theorem tw_895 : (.fieldLink RX8 123 "GhostPane$Glass" "len" "J" : Cond) ∈ lw_tbl ∧ goodWord (.fieldLink RX8 123 "GhostPane$Glass" "len" "J") = true := ⟨gp_t2 (List.mem_of_getElem? (i := 69) rfl), rfl⟩
theorem tw_896 : (.methodLink RX8 119 yX3_mirroredY : Cond) ∈ lw_tbl ∧ goodWord (.methodLink RX8 119 yX3_mirroredY) = true := ⟨gp_t4 (List.mem_of_getElem? (i := 225) rfl), rfl⟩
theorem tw_897 : (.code yX8_isHeld cX8_isHeld 3 (some .boolean) : Cond) ∈ lw_tbl ∧ goodWord (.code yX8_isHeld cX8_isHeld 3 (some .boolean)) = true := ⟨gp_t4 (List.mem_of_getElem? (i := 224) rfl), rfl⟩
theorem tw_898 : (.fieldLink RX11 261 "GhostPane$Show" "feetY" "I" : Cond) ∈ lw_tbl ∧ goodWord (.fieldLink RX11 261 "GhostPane$Show" "feetY" "I") = true := ⟨gp_t2 (List.mem_of_getElem? (i := 127) rfl), rfl⟩
theorem tw_899 : (.fieldLink RX11 258 "GhostPane$Show" "feetX" "I" : Cond) ∈ lw_tbl ∧ goodWord (.fieldLink RX11 258 "GhostPane$Show" "feetX" "I") = true := ⟨gp_t2 (List.mem_of_getElem? (i := 125) rfl), rfl⟩
theorem tw_900 : (.fieldLink RX11 255 "GhostPane$Walk" "lit" "[Z" : Cond) ∈ lw_tbl ∧ goodWord (.fieldLink RX11 255 "GhostPane$Walk" "lit" "[Z") = true := ⟨gp_t1 (List.mem_of_getElem? (i := 165) rfl), rfl⟩
theorem tw_901 : (.fieldLink RX11 252 "GhostPane$Walk" "height" "[I" : Cond) ∈ lw_tbl ∧ goodWord (.fieldLink RX11 252 "GhostPane$Walk" "height" "[I") = true := ⟨gp_t1 (List.mem_of_getElem? (i := 162) rfl), rfl⟩
theorem tw_902 : (.fieldLink RX11 249 "GhostPane$Walk" "spot" "[I" : Cond) ∈ lw_tbl ∧ goodWord (.fieldLink RX11 249 "GhostPane$Walk" "spot" "[I") = true := ⟨gp_t1 (List.mem_of_getElem? (i := 159) rfl), rfl⟩
theorem tw_903 : (.selects RX8 yX8_standAt yX8_standAt : Cond) ∈ lw_tbl ∧ goodWord (.selects RX8 yX8_standAt yX8_standAt) = true := ⟨gp_t4 (List.mem_of_getElem? (i := 218) rfl), rfl⟩
theorem tw_904 : (.instanceMethod yX8_standAt : Cond) ∈ lw_tbl ∧ goodWord (.instanceMethod yX8_standAt) = true := ⟨gp_t4 (List.mem_of_getElem? (i := 217) rfl), rfl⟩
theorem tw_905 : (.methodLink RX11 246 yX8_standAt : Cond) ∈ lw_tbl ∧ goodWord (.methodLink RX11 246 yX8_standAt) = true := ⟨gp_t4 (List.mem_of_getElem? (i := 216) rfl), rfl⟩
theorem tw_906 : (.fieldLink RX8 116 "GhostPane$Show" "feetY" "I" : Cond) ∈ lw_tbl ∧ goodWord (.fieldLink RX8 116 "GhostPane$Show" "feetY" "I") = true := ⟨gp_t2 (List.mem_of_getElem? (i := 126) rfl), rfl⟩
theorem tw_907 : (.fieldLink RX8 113 "GhostPane$Walk" "height" "[I" : Cond) ∈ lw_tbl ∧ goodWord (.fieldLink RX8 113 "GhostPane$Walk" "height" "[I") = true := ⟨gp_t1 (List.mem_of_getElem? (i := 161) rfl), rfl⟩
theorem tw_908 : (.fieldLink RX8 110 "GhostPane$Show" "groundY" "I" : Cond) ∈ lw_tbl ∧ goodWord (.fieldLink RX8 110 "GhostPane$Show" "groundY" "I") = true := ⟨gp_t2 (List.mem_of_getElem? (i := 128) rfl), rfl⟩
theorem tw_909 : (.fieldLink RX8 107 "GhostPane$Room" "dy" "I" : Cond) ∈ lw_tbl ∧ goodWord (.fieldLink RX8 107 "GhostPane$Room" "dy" "I") = true := ⟨gp_t1 (List.mem_of_getElem? (i := 220) rfl), rfl⟩
theorem tw_910 : (.fieldLink RX8 106 "GhostPane$Glass" "deep" "I" : Cond) ∈ lw_tbl ∧ goodWord (.fieldLink RX8 106 "GhostPane$Glass" "deep" "I") = true := ⟨gp_t2 (List.mem_of_getElem? (i := 72) rfl), rfl⟩
theorem tw_911 : (.fieldLink RX8 103 "GhostPane$Room" "cy" "I" : Cond) ∈ lw_tbl ∧ goodWord (.fieldLink RX8 103 "GhostPane$Room" "cy" "I") = true := ⟨gp_t1 (List.mem_of_getElem? (i := 214) rfl), rfl⟩
theorem tw_912 : (.fieldLink RX8 100 "GhostPane$Show" "feetX" "I" : Cond) ∈ lw_tbl ∧ goodWord (.fieldLink RX8 100 "GhostPane$Show" "feetX" "I") = true := ⟨gp_t2 (List.mem_of_getElem? (i := 124) rfl), rfl⟩
theorem tw_913 : (.methodLink RX8 94 yJ9_floorDiv_7cf53 : Cond) ∈ lw_tbl ∧ goodWord (.methodLink RX8 94 yJ9_floorDiv_7cf53) = true := ⟨gp_t4 (List.mem_of_getElem? (i := 220) rfl), rfl⟩
theorem tw_914 : (.fieldLink RX8 91 "GhostPane$Room" "dx" "I" : Cond) ∈ lw_tbl ∧ goodWord (.fieldLink RX8 91 "GhostPane$Room" "dx" "I") = true := ⟨gp_t1 (List.mem_of_getElem? (i := 217) rfl), rfl⟩
theorem tw_915 : (.fieldLink RX8 88 "GhostPane$Room" "cx" "I" : Cond) ∈ lw_tbl ∧ goodWord (.fieldLink RX8 88 "GhostPane$Room" "cx" "I") = true := ⟨gp_t1 (List.mem_of_getElem? (i := 211) rfl), rfl⟩
theorem tw_916 : (.fieldLink RX8 83 "GhostPane$Walk" "spot" "[I" : Cond) ∈ lw_tbl ∧ goodWord (.fieldLink RX8 83 "GhostPane$Walk" "spot" "[I") = true := ⟨gp_t1 (List.mem_of_getElem? (i := 158) rfl), rfl⟩
theorem tw_917 : (.fieldLink RX8 15 "GhostPane$Show" "walk" "LGhostPane$Walk;" : Cond) ∈ lw_tbl ∧ goodWord (.fieldLink RX8 15 "GhostPane$Show" "walk" "LGhostPane$Walk;") = true := ⟨gp_t2 (List.mem_of_getElem? (i := 130) rfl), rfl⟩
theorem tw_918 : (.code yX8_standAt cX8_standAt 3 none : Cond) ∈ lw_tbl ∧ goodWord (.code yX8_standAt cX8_standAt 3 none) = true := ⟨gp_t4 (List.mem_of_getElem? (i := 219) rfl), rfl⟩
theorem tw_919 : (.selects RX10 yX10_hasCount yX10_hasCount : Cond) ∈ lw_tbl ∧ goodWord (.selects RX10 yX10_hasCount yX10_hasCount) = true := ⟨gp_t4 (List.mem_of_getElem? (i := 214) rfl), rfl⟩
theorem tw_920 : (.instanceMethod yX10_hasCount : Cond) ∈ lw_tbl ∧ goodWord (.instanceMethod yX10_hasCount) = true := ⟨gp_t4 (List.mem_of_getElem? (i := 213) rfl), rfl⟩
theorem tw_921 : (.methodLink RX11 243 yX10_hasCount : Cond) ∈ lw_tbl ∧ goodWord (.methodLink RX11 243 yX10_hasCount) = true := ⟨gp_t4 (List.mem_of_getElem? (i := 212) rfl), rfl⟩
theorem tw_922 : (.code yX10_hasCount cX10_hasCount 2 (some .boolean) : Cond) ∈ lw_tbl ∧ goodWord (.code yX10_hasCount cX10_hasCount 2 (some .boolean)) = true := ⟨gp_t4 (List.mem_of_getElem? (i := 215) rfl), rfl⟩
theorem tw_923 : (.code yX11_count cX11_count 3 (some .int) : Cond) ∈ lw_tbl ∧ goodWord (.code yX11_count cX11_count 3 (some .int)) = true := ⟨gp_t4 (List.mem_of_getElem? (i := 211) rfl), rfl⟩
theorem tw_924 : (.selects RX11 yX11_count yX11_count : Cond) ∈ lw_tbl ∧ goodWord (.selects RX11 yX11_count yX11_count) = true := ⟨gp_t4 (List.mem_of_getElem? (i := 210) rfl), rfl⟩
theorem tw_925 : (.instanceMethod yX11_count : Cond) ∈ lw_tbl ∧ goodWord (.instanceMethod yX11_count) = true := ⟨gp_t4 (List.mem_of_getElem? (i := 209) rfl), rfl⟩
theorem tw_926 : (.methodLink RL 94 yX11_count : Cond) ∈ lw_tbl ∧ goodWord (.methodLink RL 94 yX11_count) = true := ⟨gp_t4 (List.mem_of_getElem? (i := 208) rfl), rfl⟩
theorem tw_927 : (.selects RX12 yX12_clashes yX12_clashes : Cond) ∈ lw_tbl ∧ goodWord (.selects RX12 yX12_clashes yX12_clashes) = true := ⟨List.mem_of_getElem? (i := 82) rfl, rfl⟩
theorem tw_928 : (.instanceMethod yX12_clashes : Cond) ∈ lw_tbl ∧ goodWord (.instanceMethod yX12_clashes) = true := ⟨gp_t8 (List.mem_of_getElem? (i := 100) rfl), rfl⟩
theorem tw_929 : (.methodLink RX12 488 yX12_clashes : Cond) ∈ lw_tbl ∧ goodWord (.methodLink RX12 488 yX12_clashes) = true := ⟨gp_t8 (List.mem_of_getElem? (i := 98) rfl), rfl⟩
theorem tw_930 : (.code yX12_clashes cX12_clashes 10 (some .int) : Cond) ∈ lw_tbl ∧ goodWord (.code yX12_clashes cX12_clashes 10 (some .int)) = true := ⟨gp_t8 (List.mem_of_getElem? (i := 101) rfl), rfl⟩
theorem tw_931 : (.selects RX12 yX12_isHeld yX12_isHeld : Cond) ∈ lw_tbl ∧ goodWord (.selects RX12 yX12_isHeld yX12_isHeld) = true := ⟨List.mem_of_getElem? (i := 81) rfl, rfl⟩
theorem tw_932 : (.instanceMethod yX12_isHeld : Cond) ∈ lw_tbl ∧ goodWord (.instanceMethod yX12_isHeld) = true := ⟨gp_t8 (List.mem_of_getElem? (i := 96) rfl), rfl⟩
theorem tw_933 : (.methodLink RX12 485 yX12_isHeld : Cond) ∈ lw_tbl ∧ goodWord (.methodLink RX12 485 yX12_isHeld) = true := ⟨gp_t8 (List.mem_of_getElem? (i := 94) rfl), rfl⟩
theorem tw_934 : (.code yX12_isHeld cX12_isHeld 4 (some .boolean) : Cond) ∈ lw_tbl ∧ goodWord (.code yX12_isHeld cX12_isHeld 4 (some .boolean)) = true := ⟨gp_t8 (List.mem_of_getElem? (i := 97) rfl), rfl⟩
theorem tw_935 : (.selects RX12 yX12_feetY yX12_feetY : Cond) ∈ lw_tbl ∧ goodWord (.selects RX12 yX12_feetY yX12_feetY) = true := ⟨List.mem_of_getElem? (i := 80) rfl, rfl⟩
theorem tw_936 : (.instanceMethod yX12_feetY : Cond) ∈ lw_tbl ∧ goodWord (.instanceMethod yX12_feetY) = true := ⟨gp_t8 (List.mem_of_getElem? (i := 92) rfl), rfl⟩
theorem tw_937 : (.methodLink RX12 479 yX12_feetY : Cond) ∈ lw_tbl ∧ goodWord (.methodLink RX12 479 yX12_feetY) = true := ⟨gp_t8 (List.mem_of_getElem? (i := 90) rfl), rfl⟩
theorem tw_938 : (.code yX12_feetY cX12_feetY 2 (some .int) : Cond) ∈ lw_tbl ∧ goodWord (.code yX12_feetY cX12_feetY 2 (some .int)) = true := ⟨gp_t8 (List.mem_of_getElem? (i := 93) rfl), rfl⟩
theorem tw_939 : (.selects RX12 yX12_feetX yX12_feetX : Cond) ∈ lw_tbl ∧ goodWord (.selects RX12 yX12_feetX yX12_feetX) = true := ⟨List.mem_of_getElem? (i := 79) rfl, rfl⟩
theorem tw_940 : (.instanceMethod yX12_feetX : Cond) ∈ lw_tbl ∧ goodWord (.instanceMethod yX12_feetX) = true := ⟨gp_t8 (List.mem_of_getElem? (i := 88) rfl), rfl⟩
theorem tw_941 : (.methodLink RX12 476 yX12_feetX : Cond) ∈ lw_tbl ∧ goodWord (.methodLink RX12 476 yX12_feetX) = true := ⟨gp_t8 (List.mem_of_getElem? (i := 86) rfl), rfl⟩
theorem tw_942 : (.code yX12_feetX cX12_feetX 2 (some .int) : Cond) ∈ lw_tbl ∧ goodWord (.code yX12_feetX cX12_feetX 2 (some .int)) = true := ⟨gp_t8 (List.mem_of_getElem? (i := 89) rfl), rfl⟩
theorem tw_943 : (.selects RX12 yX12_isCount yX12_isCount : Cond) ∈ lw_tbl ∧ goodWord (.selects RX12 yX12_isCount yX12_isCount) = true := ⟨List.mem_of_getElem? (i := 78) rfl, rfl⟩
theorem tw_944 : (.instanceMethod yX12_isCount : Cond) ∈ lw_tbl ∧ goodWord (.instanceMethod yX12_isCount) = true := ⟨gp_t8 (List.mem_of_getElem? (i := 84) rfl), rfl⟩
theorem tw_945 : (.methodLink RX12 482 yX12_isCount : Cond) ∈ lw_tbl ∧ goodWord (.methodLink RX12 482 yX12_isCount) = true := ⟨gp_t8 (List.mem_of_getElem? (i := 82) rfl), rfl⟩
theorem tw_946 : (.code yX12_isCount cX12_isCount 2 (some .boolean) : Cond) ∈ lw_tbl ∧ goodWord (.code yX12_isCount cX12_isCount 2 (some .boolean)) = true := ⟨gp_t8 (List.mem_of_getElem? (i := 85) rfl), rfl⟩
theorem tw_947 : (.code yX12_count cX12_count 3 (some .int) : Cond) ∈ lw_tbl ∧ goodWord (.code yX12_count cX12_count 3 (some .int)) = true := ⟨gp_t8 (List.mem_of_getElem? (i := 81) rfl), rfl⟩
theorem tw_948 : (.selects RX12 yX12_count yX12_count : Cond) ∈ lw_tbl ∧ goodWord (.selects RX12 yX12_count yX12_count) = true := ⟨gp_t8 (List.mem_of_getElem? (i := 80) rfl), rfl⟩
theorem tw_949 : (.instanceMethod yX12_count : Cond) ∈ lw_tbl ∧ goodWord (.instanceMethod yX12_count) = true := ⟨gp_t8 (List.mem_of_getElem? (i := 79) rfl), rfl⟩
theorem tw_950 : (.methodLink RL 97 yX12_count : Cond) ∈ lw_tbl ∧ goodWord (.methodLink RL 97 yX12_count) = true := ⟨gp_t8 (List.mem_of_getElem? (i := 78) rfl), rfl⟩
theorem tw_951 : (.selects RX8 yX8_seesGhost yX8_seesGhost : Cond) ∈ lw_tbl ∧ goodWord (.selects RX8 yX8_seesGhost yX8_seesGhost) = true := ⟨gp_t5 (List.mem_of_getElem? (i := 11) rfl), rfl⟩
theorem tw_952 : (.instanceMethod yX8_seesGhost : Cond) ∈ lw_tbl ∧ goodWord (.instanceMethod yX8_seesGhost) = true := ⟨gp_t5 (List.mem_of_getElem? (i := 10) rfl), rfl⟩
theorem tw_953 : (.methodLink RX11 273 yX8_seesGhost : Cond) ∈ lw_tbl ∧ goodWord (.methodLink RX11 273 yX8_seesGhost) = true := ⟨gp_t5 (List.mem_of_getElem? (i := 9) rfl), rfl⟩
theorem tw_954 : (.code yX8_seesGhost cX8_seesGhost 6 (some .boolean) : Cond) ∈ lw_tbl ∧ goodWord (.code yX8_seesGhost cX8_seesGhost 6 (some .boolean)) = true := ⟨gp_t5 (List.mem_of_getElem? (i := 12) rfl), rfl⟩
theorem tw_955 : (.selects RX8 yX8_isGood yX8_isGood : Cond) ∈ lw_tbl ∧ goodWord (.selects RX8 yX8_isGood yX8_isGood) = true := ⟨gp_t5 (List.mem_of_getElem? (i := 4) rfl), rfl⟩
theorem tw_956 : (.instanceMethod yX8_isGood : Cond) ∈ lw_tbl ∧ goodWord (.instanceMethod yX8_isGood) = true := ⟨gp_t5 (List.mem_of_getElem? (i := 3) rfl), rfl⟩
theorem tw_957 : (.methodLink RX11 270 yX8_isGood : Cond) ∈ lw_tbl ∧ goodWord (.methodLink RX11 270 yX8_isGood) = true := ⟨gp_t5 (List.mem_of_getElem? (i := 2) rfl), rfl⟩
theorem tw_958 : (.methodLink RX8 162 yX8_clashes : Cond) ∈ lw_tbl ∧ goodWord (.methodLink RX8 162 yX8_clashes) = true := ⟨gp_t5 (List.mem_of_getElem? (i := 8) rfl), rfl⟩
theorem tw_959 : (.methodLink RX8 158 yX8_isHeld : Cond) ∈ lw_tbl ∧ goodWord (.methodLink RX8 158 yX8_isHeld) = true := ⟨gp_t5 (List.mem_of_getElem? (i := 7) rfl), rfl⟩
theorem tw_960 : (.fieldLink RX8 155 "GhostPane$Walk" "lit" "[Z" : Cond) ∈ lw_tbl ∧ goodWord (.fieldLink RX8 155 "GhostPane$Walk" "lit" "[Z") = true := ⟨gp_t1 (List.mem_of_getElem? (i := 164) rfl), rfl⟩
theorem tw_961 : (.methodLink RX8 151 yX8_standAt : Cond) ∈ lw_tbl ∧ goodWord (.methodLink RX8 151 yX8_standAt) = true := ⟨gp_t5 (List.mem_of_getElem? (i := 6) rfl), rfl⟩
theorem tw_962 : (.code yX8_isGood cX8_isGood 2 (some .boolean) : Cond) ∈ lw_tbl ∧ goodWord (.code yX8_isGood cX8_isGood 2 (some .boolean)) = true := ⟨gp_t5 (List.mem_of_getElem? (i := 5) rfl), rfl⟩
theorem tw_963 : (.code yX11_has cX11_has 3 (some .int) : Cond) ∈ lw_tbl ∧ goodWord (.code yX11_has cX11_has 3 (some .int)) = true := ⟨gp_t5 (List.mem_of_getElem? (i := 1) rfl), rfl⟩
theorem tw_964 : (.selects RX11 yX11_has yX11_has : Cond) ∈ lw_tbl ∧ goodWord (.selects RX11 yX11_has yX11_has) = true := ⟨gp_t5 (List.mem_of_getElem? (i := 0) rfl), rfl⟩
theorem tw_965 : (.instanceMethod yX11_has : Cond) ∈ lw_tbl ∧ goodWord (.instanceMethod yX11_has) = true := ⟨gp_t4 (List.mem_of_getElem? (i := 239) rfl), rfl⟩
theorem tw_966 : (.methodLink RL 98 yX11_has : Cond) ∈ lw_tbl ∧ goodWord (.methodLink RL 98 yX11_has) = true := ⟨gp_t4 (List.mem_of_getElem? (i := 238) rfl), rfl⟩
theorem tw_967 : (.selects RX12 yX12_hasCount yX12_hasCount : Cond) ∈ lw_tbl ∧ goodWord (.selects RX12 yX12_hasCount yX12_hasCount) = true := ⟨List.mem_of_getElem? (i := 83) rfl, rfl⟩
theorem tw_968 : (.instanceMethod yX12_hasCount : Cond) ∈ lw_tbl ∧ goodWord (.instanceMethod yX12_hasCount) = true := ⟨gp_t8 (List.mem_of_getElem? (i := 108) rfl), rfl⟩
theorem tw_969 : (.methodLink RX12 494 yX12_hasCount : Cond) ∈ lw_tbl ∧ goodWord (.methodLink RX12 494 yX12_hasCount) = true := ⟨gp_t8 (List.mem_of_getElem? (i := 106) rfl), rfl⟩
theorem tw_970 : (.selects RX12 yX12_seesFace yX12_seesFace : Cond) ∈ lw_tbl ∧ goodWord (.selects RX12 yX12_seesFace yX12_seesFace) = true := ⟨List.mem_of_getElem? (i := 84) rfl, rfl⟩
theorem tw_971 : (.instanceMethod yX12_seesFace : Cond) ∈ lw_tbl ∧ goodWord (.instanceMethod yX12_seesFace) = true := ⟨gp_t8 (List.mem_of_getElem? (i := 112) rfl), rfl⟩
theorem tw_972 : (.methodLink RX12 491 yX12_seesFace : Cond) ∈ lw_tbl ∧ goodWord (.methodLink RX12 491 yX12_seesFace) = true := ⟨gp_t8 (List.mem_of_getElem? (i := 110) rfl), rfl⟩
theorem tw_973 : (.code yX12_seesFace cX12_seesFace 3 (some .boolean) : Cond) ∈ lw_tbl ∧ goodWord (.code yX12_seesFace cX12_seesFace 3 (some .boolean)) = true := ⟨gp_t8 (List.mem_of_getElem? (i := 113) rfl), rfl⟩
theorem tw_974 : (.code yX12_hasCount cX12_hasCount 3 (some .boolean) : Cond) ∈ lw_tbl ∧ goodWord (.code yX12_hasCount cX12_hasCount 3 (some .boolean)) = true := ⟨gp_t8 (List.mem_of_getElem? (i := 109) rfl), rfl⟩
theorem tw_975 : (.code yX12_has cX12_has 3 (some .int) : Cond) ∈ lw_tbl ∧ goodWord (.code yX12_has cX12_has 3 (some .int)) = true := ⟨gp_t8 (List.mem_of_getElem? (i := 105) rfl), rfl⟩
theorem tw_976 : (.selects RX12 yX12_has yX12_has : Cond) ∈ lw_tbl ∧ goodWord (.selects RX12 yX12_has yX12_has) = true := ⟨gp_t8 (List.mem_of_getElem? (i := 104) rfl), rfl⟩
theorem tw_977 : (.instanceMethod yX12_has : Cond) ∈ lw_tbl ∧ goodWord (.instanceMethod yX12_has) = true := ⟨gp_t8 (List.mem_of_getElem? (i := 103) rfl), rfl⟩
theorem tw_978 : (.methodLink RL 101 yX12_has : Cond) ∈ lw_tbl ∧ goodWord (.methodLink RL 101 yX12_has) = true := ⟨gp_t8 (List.mem_of_getElem? (i := 102) rfl), rfl⟩
theorem tw_979 : (.selects RX8 yX8_countsOf yX8_countsOf : Cond) ∈ lw_tbl ∧ goodWord (.selects RX8 yX8_countsOf yX8_countsOf) = true := ⟨gp_t5 (List.mem_of_getElem? (i := 19) rfl), rfl⟩
theorem tw_980 : (.instanceMethod yX8_countsOf : Cond) ∈ lw_tbl ∧ goodWord (.instanceMethod yX8_countsOf) = true := ⟨gp_t5 (List.mem_of_getElem? (i := 18) rfl), rfl⟩
theorem tw_981 : (.methodLink RX11 276 yX8_countsOf : Cond) ∈ lw_tbl ∧ goodWord (.methodLink RX11 276 yX8_countsOf) = true := ⟨gp_t5 (List.mem_of_getElem? (i := 17) rfl), rfl⟩
theorem tw_982 : (.methodLink RX8 185 yX8_seesGhost : Cond) ∈ lw_tbl ∧ goodWord (.methodLink RX8 185 yX8_seesGhost) = true := ⟨gp_t5 (List.mem_of_getElem? (i := 26) rfl), rfl⟩
theorem tw_983 : (.methodLink RX8 182 yX8_isGood : Cond) ∈ lw_tbl ∧ goodWord (.methodLink RX8 182 yX8_isGood) = true := ⟨gp_t5 (List.mem_of_getElem? (i := 25) rfl), rfl⟩
theorem tw_984 : (.selects RX10 yX10_isAsBefore yX10_isAsBefore : Cond) ∈ lw_tbl ∧ goodWord (.selects RX10 yX10_isAsBefore yX10_isAsBefore) = true := ⟨gp_t5 (List.mem_of_getElem? (i := 23) rfl), rfl⟩
theorem tw_985 : (.instanceMethod yX10_isAsBefore : Cond) ∈ lw_tbl ∧ goodWord (.instanceMethod yX10_isAsBefore) = true := ⟨gp_t5 (List.mem_of_getElem? (i := 22) rfl), rfl⟩
theorem tw_986 : (.methodLink RX8 179 yX10_isAsBefore : Cond) ∈ lw_tbl ∧ goodWord (.methodLink RX8 179 yX10_isAsBefore) = true := ⟨gp_t5 (List.mem_of_getElem? (i := 21) rfl), rfl⟩
theorem tw_987 : (.code yX10_isAsBefore cX10_isAsBefore 2 (some .boolean) : Cond) ∈ lw_tbl ∧ goodWord (.code yX10_isAsBefore cX10_isAsBefore 2 (some .boolean)) = true := ⟨gp_t5 (List.mem_of_getElem? (i := 24) rfl), rfl⟩
theorem tw_988 : (.fieldLink RX8 176 "GhostPane$Walk" "last" "I" : Cond) ∈ lw_tbl ∧ goodWord (.fieldLink RX8 176 "GhostPane$Walk" "last" "I") = true := ⟨gp_t1 (List.mem_of_getElem? (i := 155) rfl), rfl⟩
theorem tw_989 : (.code yX8_countsOf cX8_countsOf 5 (some .int) : Cond) ∈ lw_tbl ∧ goodWord (.code yX8_countsOf cX8_countsOf 5 (some .int)) = true := ⟨gp_t5 (List.mem_of_getElem? (i := 20) rfl), rfl⟩
theorem tw_990 : (.code yX11_counts cX11_counts 2 (some .int) : Cond) ∈ lw_tbl ∧ goodWord (.code yX11_counts cX11_counts 2 (some .int)) = true := ⟨gp_t5 (List.mem_of_getElem? (i := 16) rfl), rfl⟩
theorem tw_991 : (.selects RX11 yX11_counts yX11_counts : Cond) ∈ lw_tbl ∧ goodWord (.selects RX11 yX11_counts yX11_counts) = true := ⟨gp_t5 (List.mem_of_getElem? (i := 15) rfl), rfl⟩
theorem tw_992 : (.instanceMethod yX11_counts : Cond) ∈ lw_tbl ∧ goodWord (.instanceMethod yX11_counts) = true := ⟨gp_t5 (List.mem_of_getElem? (i := 14) rfl), rfl⟩
theorem tw_993 : (.methodLink RL 102 yX11_counts : Cond) ∈ lw_tbl ∧ goodWord (.methodLink RL 102 yX11_counts) = true := ⟨gp_t5 (List.mem_of_getElem? (i := 13) rfl), rfl⟩
theorem tw_994 : (.selects RX12 yX12_countsOfSeat yX12_countsOfSeat : Cond) ∈ lw_tbl ∧ goodWord (.selects RX12 yX12_countsOfSeat yX12_countsOfSeat) = true := ⟨List.mem_of_getElem? (i := 85) rfl, rfl⟩
theorem tw_995 : (.instanceMethod yX12_countsOfSeat : Cond) ∈ lw_tbl ∧ goodWord (.instanceMethod yX12_countsOfSeat) = true := ⟨gp_t8 (List.mem_of_getElem? (i := 120) rfl), rfl⟩
theorem tw_996 : (.methodLink RX12 497 yX12_countsOfSeat : Cond) ∈ lw_tbl ∧ goodWord (.methodLink RX12 497 yX12_countsOfSeat) = true := ⟨gp_t8 (List.mem_of_getElem? (i := 118) rfl), rfl⟩
theorem tw_997 : (.code yX12_countsOfSeat cX12_countsOfSeat 4 (some .int) : Cond) ∈ lw_tbl ∧ goodWord (.code yX12_countsOfSeat cX12_countsOfSeat 4 (some .int)) = true := ⟨gp_t8 (List.mem_of_getElem? (i := 121) rfl), rfl⟩
theorem tw_998 : (.code yX12_counts cX12_counts 2 (some .int) : Cond) ∈ lw_tbl ∧ goodWord (.code yX12_counts cX12_counts 2 (some .int)) = true := ⟨gp_t8 (List.mem_of_getElem? (i := 117) rfl), rfl⟩
theorem tw_999 : (.selects RX12 yX12_counts yX12_counts : Cond) ∈ lw_tbl ∧ goodWord (.selects RX12 yX12_counts yX12_counts) = true := ⟨gp_t8 (List.mem_of_getElem? (i := 116) rfl), rfl⟩
theorem tw_1000 : (.instanceMethod yX12_counts : Cond) ∈ lw_tbl ∧ goodWord (.instanceMethod yX12_counts) = true := ⟨gp_t8 (List.mem_of_getElem? (i := 115) rfl), rfl⟩
theorem tw_1001 : (.methodLink RL 105 yX12_counts : Cond) ∈ lw_tbl ∧ goodWord (.methodLink RL 105 yX12_counts) = true := ⟨gp_t8 (List.mem_of_getElem? (i := 114) rfl), rfl⟩
theorem tw_1002 : (.selects RX8 yX8_countsOfAll yX8_countsOfAll : Cond) ∈ lw_tbl ∧ goodWord (.selects RX8 yX8_countsOfAll yX8_countsOfAll) = true := ⟨gp_t5 (List.mem_of_getElem? (i := 33) rfl), rfl⟩
theorem tw_1003 : (.instanceMethod yX8_countsOfAll : Cond) ∈ lw_tbl ∧ goodWord (.instanceMethod yX8_countsOfAll) = true := ⟨gp_t5 (List.mem_of_getElem? (i := 32) rfl), rfl⟩
theorem tw_1004 : (.methodLink RX11 280 yX8_countsOfAll : Cond) ∈ lw_tbl ∧ goodWord (.methodLink RX11 280 yX8_countsOfAll) = true := ⟨gp_t5 (List.mem_of_getElem? (i := 31) rfl), rfl⟩
theorem tw_1005 : (.selects RX8 yX8_seatsSeeing yX8_seatsSeeing : Cond) ∈ lw_tbl ∧ goodWord (.selects RX8 yX8_seatsSeeing yX8_seatsSeeing) = true := ⟨List.mem_of_getElem? (i := 32) rfl, rfl⟩
theorem tw_1006 : (.instanceMethod yX8_seatsSeeing : Cond) ∈ lw_tbl ∧ goodWord (.instanceMethod yX8_seatsSeeing) = true := ⟨gp_t5 (List.mem_of_getElem? (i := 37) rfl), rfl⟩
theorem tw_1007 : (.methodLink RX8 188 yX8_seatsSeeing : Cond) ∈ lw_tbl ∧ goodWord (.methodLink RX8 188 yX8_seatsSeeing) = true := ⟨gp_t5 (List.mem_of_getElem? (i := 35) rfl), rfl⟩
theorem tw_1008 : (.code yX8_seatsSeeing cX8_seatsSeeing 3 (some .int) : Cond) ∈ lw_tbl ∧ goodWord (.code yX8_seatsSeeing cX8_seatsSeeing 3 (some .int)) = true := ⟨gp_t5 (List.mem_of_getElem? (i := 38) rfl), rfl⟩
theorem tw_1009 : (.code yX8_countsOfAll cX8_countsOfAll 4 (some .int) : Cond) ∈ lw_tbl ∧ goodWord (.code yX8_countsOfAll cX8_countsOfAll 4 (some .int)) = true := ⟨gp_t5 (List.mem_of_getElem? (i := 34) rfl), rfl⟩
theorem tw_1010 : (.code yX11_house cX11_house 1 (some .int) : Cond) ∈ lw_tbl ∧ goodWord (.code yX11_house cX11_house 1 (some .int)) = true := ⟨gp_t5 (List.mem_of_getElem? (i := 30) rfl), rfl⟩
theorem tw_1011 : (.selects RX11 yX11_house yX11_house : Cond) ∈ lw_tbl ∧ goodWord (.selects RX11 yX11_house yX11_house) = true := ⟨gp_t5 (List.mem_of_getElem? (i := 29) rfl), rfl⟩
theorem tw_1012 : (.instanceMethod yX11_house : Cond) ∈ lw_tbl ∧ goodWord (.instanceMethod yX11_house) = true := ⟨gp_t5 (List.mem_of_getElem? (i := 28) rfl), rfl⟩
theorem tw_1013 : (.methodLink RL 106 yX11_house : Cond) ∈ lw_tbl ∧ goodWord (.methodLink RL 106 yX11_house) = true := ⟨gp_t5 (List.mem_of_getElem? (i := 27) rfl), rfl⟩
theorem tw_1014 : (.code yX12_house cX12_house 3 (some .int) : Cond) ∈ lw_tbl ∧ goodWord (.code yX12_house cX12_house 3 (some .int)) = true := ⟨gp_t8 (List.mem_of_getElem? (i := 125) rfl), rfl⟩
theorem tw_1015 : (.selects RX12 yX12_house yX12_house : Cond) ∈ lw_tbl ∧ goodWord (.selects RX12 yX12_house yX12_house) = true := ⟨gp_t8 (List.mem_of_getElem? (i := 124) rfl), rfl⟩
theorem tw_1016 : (.instanceMethod yX12_house : Cond) ∈ lw_tbl ∧ goodWord (.instanceMethod yX12_house) = true := ⟨gp_t8 (List.mem_of_getElem? (i := 123) rfl), rfl⟩
theorem tw_1017 : (.methodLink RL 109 yX12_house : Cond) ∈ lw_tbl ∧ goodWord (.methodLink RL 109 yX12_house) = true := ⟨gp_t8 (List.mem_of_getElem? (i := 122) rfl), rfl⟩
theorem tw_1018 : (.selects RX4 yX4_settings yX4_settings : Cond) ∈ lw_tbl ∧ goodWord (.selects RX4 yX4_settings yX4_settings) = true := ⟨gp_t5 (List.mem_of_getElem? (i := 58) rfl), rfl⟩
