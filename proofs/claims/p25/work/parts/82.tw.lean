theorem t1_in {w : Cond} (h : w ∈ tables_1_1) : w ∈ lw_tbl := List.mem_append_right _ (List.mem_append_left _ h)
theorem t2_in {w : Cond} (h : w ∈ tables_1_2) : w ∈ lw_tbl := List.mem_append_right _ (List.mem_append_right _ (List.mem_append_left _ h))
theorem t3_in {w : Cond} (h : w ∈ tables_1_3) : w ∈ lw_tbl := List.mem_append_right _ (List.mem_append_right _ (List.mem_append_right _ (List.mem_append_left _ h)))
theorem t4_in {w : Cond} (h : w ∈ tables_1_4) : w ∈ lw_tbl := List.mem_append_right _ (List.mem_append_right _ (List.mem_append_right _ (List.mem_append_right _ (List.mem_append_left _ h))))
theorem t5_in {w : Cond} (h : w ∈ tables_1_5) : w ∈ lw_tbl := List.mem_append_right _ (List.mem_append_right _ (List.mem_append_right _ (List.mem_append_right _ (List.mem_append_right _ (List.mem_append_left _ h)))))
theorem t6_in {w : Cond} (h : w ∈ tables_1_6) : w ∈ lw_tbl := List.mem_append_right _ (List.mem_append_right _ (List.mem_append_right _ (List.mem_append_right _ (List.mem_append_right _ (List.mem_append_right _ (List.mem_append_left _ h))))))
theorem t7_in {w : Cond} (h : w ∈ tables_1_7) : w ∈ lw_tbl := List.mem_append_right _ (List.mem_append_right _ (List.mem_append_right _ (List.mem_append_right _ (List.mem_append_right _ (List.mem_append_right _ (List.mem_append_right _ (List.mem_append_left _ h)))))))
theorem t8_in {w : Cond} (h : w ∈ tables_1_8) : w ∈ lw_tbl := List.mem_append_right _ (List.mem_append_right _ (List.mem_append_right _ (List.mem_append_right _ (List.mem_append_right _ (List.mem_append_right _ (List.mem_append_right _ (List.mem_append_right _ (List.mem_append_left _ h))))))))
theorem t9_in {w : Cond} (h : w ∈ tables_1_9) : w ∈ lw_tbl := List.mem_append_right _ (List.mem_append_right _ (List.mem_append_right _ (List.mem_append_right _ (List.mem_append_right _ (List.mem_append_right _ (List.mem_append_right _ (List.mem_append_right _ (List.mem_append_right _ (List.mem_append_left _ h)))))))))
theorem t10_in {w : Cond} (h : w ∈ tables_1_10) : w ∈ lw_tbl := List.mem_append_right _ (List.mem_append_right _ (List.mem_append_right _ (List.mem_append_right _ (List.mem_append_right _ (List.mem_append_right _ (List.mem_append_right _ (List.mem_append_right _ (List.mem_append_right _ (List.mem_append_right _ (h))))))))))
theorem sel1_in {q : MethodName × Nat} (h : q ∈ lw_privs_1) : Cond.selects q.1.cls q.1 q.1 ∈ lw_tbl := List.mem_append_left _ (List.mem_map.mpr ⟨q, (List.mem_append_left _ h : q ∈ lw_privs), rfl⟩)
theorem sel2_in {q : MethodName × Nat} (h : q ∈ lw_privs_2) : Cond.selects q.1.cls q.1 q.1 ∈ lw_tbl := List.mem_append_left _ (List.mem_map.mpr ⟨q, (List.mem_append_right _ (List.mem_append_left _ h) : q ∈ lw_privs), rfl⟩)
theorem sel3_in {q : MethodName × Nat} (h : q ∈ lw_privs_3) : Cond.selects q.1.cls q.1 q.1 ∈ lw_tbl := List.mem_append_left _ (List.mem_map.mpr ⟨q, (List.mem_append_right _ (List.mem_append_right _ (List.mem_append_left _ h)) : q ∈ lw_privs), rfl⟩)
theorem sel4_in {q : MethodName × Nat} (h : q ∈ lw_privs_4) : Cond.selects q.1.cls q.1 q.1 ∈ lw_tbl := List.mem_append_left _ (List.mem_map.mpr ⟨q, (List.mem_append_right _ (List.mem_append_right _ (List.mem_append_right _ (List.mem_append_left _ h))) : q ∈ lw_privs), rfl⟩)
theorem sel5_in {q : MethodName × Nat} (h : q ∈ lw_privs_5) : Cond.selects q.1.cls q.1 q.1 ∈ lw_tbl := List.mem_append_left _ (List.mem_map.mpr ⟨q, (List.mem_append_right _ (List.mem_append_right _ (List.mem_append_right _ (List.mem_append_right _ (List.mem_append_left _ h)))) : q ∈ lw_privs), rfl⟩)
theorem sel6_in {q : MethodName × Nat} (h : q ∈ lw_privs_6) : Cond.selects q.1.cls q.1 q.1 ∈ lw_tbl := List.mem_append_left _ (List.mem_map.mpr ⟨q, (List.mem_append_right _ (List.mem_append_right _ (List.mem_append_right _ (List.mem_append_right _ (List.mem_append_right _ (List.mem_append_left _ h))))) : q ∈ lw_privs), rfl⟩)
theorem sel7_in {q : MethodName × Nat} (h : q ∈ lw_privs_7) : Cond.selects q.1.cls q.1 q.1 ∈ lw_tbl := List.mem_append_left _ (List.mem_map.mpr ⟨q, (List.mem_append_right _ (List.mem_append_right _ (List.mem_append_right _ (List.mem_append_right _ (List.mem_append_right _ (List.mem_append_right _ (List.mem_append_left _ h)))))) : q ∈ lw_privs), rfl⟩)
theorem sel8_in {q : MethodName × Nat} (h : q ∈ lw_privs_8) : Cond.selects q.1.cls q.1 q.1 ∈ lw_tbl := List.mem_append_left _ (List.mem_map.mpr ⟨q, (List.mem_append_right _ (List.mem_append_right _ (List.mem_append_right _ (List.mem_append_right _ (List.mem_append_right _ (List.mem_append_right _ (List.mem_append_right _ (h))))))) : q ∈ lw_privs), rfl⟩)
set_option maxRecDepth 20000 in
theorem tw_0 : (.methodLink RL 37 yX11_feed : Cond) ∈ lw_tbl := t3_in (List.mem_of_getElem? (i := 100) rfl)
set_option maxRecDepth 20000 in
theorem tw_1 : (.instanceMethod yX11_feed : Cond) ∈ lw_tbl := t3_in (List.mem_of_getElem? (i := 101) rfl)
set_option maxRecDepth 20000 in
theorem tw_2 : (.selects RX11 yX11_feed yX11_feed : Cond) ∈ lw_tbl := t3_in (List.mem_of_getElem? (i := 102) rfl)
set_option maxRecDepth 20000 in
theorem tw_3 : (.initialized RX11 : Cond) ∈ lw_tbl := t1_in (List.mem_of_getElem? (i := 1) rfl)
set_option maxRecDepth 20000 in
theorem tw_4 : (.code yX11_feed cX11_feed 6 (some .int) : Cond) ∈ lw_tbl := t3_in (List.mem_of_getElem? (i := 103) rfl)
set_option maxRecDepth 20000 in
theorem tw_5 : (.fieldLink RX11 27 "LowEnergy" "tape" "LLowEnergy$Row;" : Cond) ∈ lw_tbl := t3_in (List.mem_of_getElem? (i := 86) rfl)
set_option maxRecDepth 20000 in
theorem tw_6 : (.methodLink RX11 46 yX9_putHighestFirst : Cond) ∈ lw_tbl := t3_in (List.mem_of_getElem? (i := 104) rfl)
set_option maxRecDepth 20000 in
theorem tw_7 : (.instanceMethod yX9_putHighestFirst : Cond) ∈ lw_tbl := t3_in (List.mem_of_getElem? (i := 105) rfl)
set_option maxRecDepth 20000 in
theorem tw_8 : (.selects RX9 yX9_putHighestFirst yX9_putHighestFirst : Cond) ∈ lw_tbl := t3_in (List.mem_of_getElem? (i := 106) rfl)
set_option maxRecDepth 20000 in
theorem tw_9 : (.initialized RX9 : Cond) ∈ lw_tbl := t1_in (List.mem_of_getElem? (i := 3) rfl)
set_option maxRecDepth 20000 in
theorem tw_10 : (.code yX9_putHighestFirst cX9_putHighestFirst 3 none : Cond) ∈ lw_tbl := t3_in (List.mem_of_getElem? (i := 107) rfl)
set_option maxRecDepth 20000 in
theorem tw_11 : (.fieldLink RX9 21 "LowEnergy$Row" "size" "I" : Cond) ∈ lw_tbl := t1_in (List.mem_of_getElem? (i := 51) rfl)
set_option maxRecDepth 20000 in
theorem tw_12 : (.fieldLink RX9 15 "LowEnergy$Row" "bytes" "[I" : Cond) ∈ lw_tbl := t1_in (List.mem_of_getElem? (i := 49) rfl)
set_option maxRecDepth 20000 in
theorem tw_13 : (.methodLink RL 41 yX12_feed : Cond) ∈ lw_tbl := t7_in (List.mem_of_getElem? (i := 9) rfl)
set_option maxRecDepth 20000 in
theorem tw_14 : (.instanceMethod yX12_feed : Cond) ∈ lw_tbl := t7_in (List.mem_of_getElem? (i := 10) rfl)
set_option maxRecDepth 20000 in
theorem tw_15 : (.selects RX12 yX12_feed yX12_feed : Cond) ∈ lw_tbl := t7_in (List.mem_of_getElem? (i := 11) rfl)
set_option maxRecDepth 20000 in
theorem tw_16 : (.initialized RX12 : Cond) ∈ lw_tbl := t1_in (List.mem_of_getElem? (i := 14) rfl)
set_option maxRecDepth 20000 in
theorem tw_17 : (.code yX12_feed cX12_feed 8 (some .int) : Cond) ∈ lw_tbl := t7_in (List.mem_of_getElem? (i := 12) rfl)
set_option maxRecDepth 20000 in
theorem tw_18 : (.fieldLink RX12 10 "LowEnergyModel" "tape" "[B" : Cond) ∈ lw_tbl := t7_in (List.mem_of_getElem? (i := 39) rfl)
set_option maxRecDepth 20000 in
theorem tw_19 : (.fieldLink RX12 7 "LowEnergyModel" "taped" "I" : Cond) ∈ lw_tbl := t7_in (List.mem_of_getElem? (i := 40) rfl)
set_option maxRecDepth 20000 in
theorem tw_20 : (.fieldLink RX12 1 "LowEnergyModel" "thrown" "I" : Cond) ∈ lw_tbl := t7_in (List.mem_of_getElem? (i := 38) rfl)
set_option maxRecDepth 20000 in
theorem tw_21 : (.methodLink RL 42 yX11_end : Cond) ∈ lw_tbl := t3_in (List.mem_of_getElem? (i := 108) rfl)
set_option maxRecDepth 20000 in
theorem tw_22 : (.instanceMethod yX11_end : Cond) ∈ lw_tbl := t3_in (List.mem_of_getElem? (i := 109) rfl)
set_option maxRecDepth 20000 in
theorem tw_23 : (.selects RX11 yX11_end yX11_end : Cond) ∈ lw_tbl := t3_in (List.mem_of_getElem? (i := 110) rfl)
set_option maxRecDepth 20000 in
theorem tw_24 : (.code yX11_end cX11_end 2 (some .int) : Cond) ∈ lw_tbl := t3_in (List.mem_of_getElem? (i := 111) rfl)
set_option maxRecDepth 20000 in
theorem tw_25 : (.methodLink RX11 49 yX9_cut : Cond) ∈ lw_tbl := t3_in (List.mem_of_getElem? (i := 112) rfl)
set_option maxRecDepth 20000 in
theorem tw_26 : (.instanceMethod yX9_cut : Cond) ∈ lw_tbl := t3_in (List.mem_of_getElem? (i := 113) rfl)
set_option maxRecDepth 20000 in
theorem tw_27 : (.selects RX9 yX9_cut yX9_cut : Cond) ∈ lw_tbl := t3_in (List.mem_of_getElem? (i := 114) rfl)
set_option maxRecDepth 20000 in
theorem tw_28 : (.code yX9_cut cX9_cut 2 none : Cond) ∈ lw_tbl := t3_in (List.mem_of_getElem? (i := 115) rfl)
set_option maxRecDepth 20000 in
theorem tw_29 : (.methodLink RL 45 yX12_end : Cond) ∈ lw_tbl := t7_in (List.mem_of_getElem? (i := 13) rfl)
set_option maxRecDepth 20000 in
theorem tw_30 : (.instanceMethod yX12_end : Cond) ∈ lw_tbl := t7_in (List.mem_of_getElem? (i := 14) rfl)
set_option maxRecDepth 20000 in
theorem tw_31 : (.selects RX12 yX12_end yX12_end : Cond) ∈ lw_tbl := t7_in (List.mem_of_getElem? (i := 15) rfl)
set_option maxRecDepth 20000 in
theorem tw_32 : (.code yX12_end cX12_end 2 (some .int) : Cond) ∈ lw_tbl := t7_in (List.mem_of_getElem? (i := 16) rfl)
set_option maxRecDepth 20000 in
theorem tw_33 : (.methodLink RL 46 yX11_seed : Cond) ∈ lw_tbl := t3_in (List.mem_of_getElem? (i := 116) rfl)
set_option maxRecDepth 20000 in
theorem tw_34 : (.instanceMethod yX11_seed : Cond) ∈ lw_tbl := t3_in (List.mem_of_getElem? (i := 117) rfl)
set_option maxRecDepth 20000 in
theorem tw_35 : (.selects RX11 yX11_seed yX11_seed : Cond) ∈ lw_tbl := t3_in (List.mem_of_getElem? (i := 118) rfl)
set_option maxRecDepth 20000 in
theorem tw_36 : (.code yX11_seed cX11_seed 4 (some .boolean) : Cond) ∈ lw_tbl := t3_in (List.mem_of_getElem? (i := 119) rfl)
set_option maxRecDepth 20000 in
theorem tw_37 : (.methodLink RX11 52 yX11_find : Cond) ∈ lw_tbl := t3_in (List.mem_of_getElem? (i := 120) rfl)
set_option maxRecDepth 20000 in
theorem tw_38 : (.instanceMethod yX11_find : Cond) ∈ lw_tbl := t3_in (List.mem_of_getElem? (i := 122) rfl)
set_option maxRecDepth 20000 in
theorem tw_39 : (.selects RX11 yX11_find yX11_find : Cond) ∈ lw_tbl := sel1_in (List.mem_of_getElem? (i := 0) rfl)
set_option maxRecDepth 20000 in
theorem tw_40 : (.code yX11_find cX11_find 2 (some (.object "LowEnergy$Device")) : Cond) ∈ lw_tbl := t3_in (List.mem_of_getElem? (i := 123) rfl)
set_option maxRecDepth 20000 in
theorem tw_41 : (.fieldLink RX11 9 "LowEnergy" "devices" "[LLowEnergy$Device;" : Cond) ∈ lw_tbl := t3_in (List.mem_of_getElem? (i := 84) rfl)
set_option maxRecDepth 20000 in
theorem tw_42 : (.methodLink RL 50 yX12_seed : Cond) ∈ lw_tbl := t10_in (List.mem_of_getElem? (i := 8) rfl)
set_option maxRecDepth 20000 in
theorem tw_43 : (.instanceMethod yX12_seed : Cond) ∈ lw_tbl := t10_in (List.mem_of_getElem? (i := 9) rfl)
set_option maxRecDepth 20000 in
theorem tw_44 : (.selects RX12 yX12_seed yX12_seed : Cond) ∈ lw_tbl := t10_in (List.mem_of_getElem? (i := 10) rfl)
set_option maxRecDepth 20000 in
theorem tw_45 : (.code yX12_seed cX12_seed 3 (some .boolean) : Cond) ∈ lw_tbl := t10_in (List.mem_of_getElem? (i := 11) rfl)
set_option maxRecDepth 20000 in
theorem tw_46 : (.methodLink RX12 413 yX12_in : Cond) ∈ lw_tbl := t8_in (List.mem_of_getElem? (i := 173) rfl)
set_option maxRecDepth 20000 in
theorem tw_47 : (.static yX12_in : Cond) ∈ lw_tbl := t8_in (List.mem_of_getElem? (i := 174) rfl)
set_option maxRecDepth 20000 in
theorem tw_48 : (.code yX12_in cX12_in 2 (some .boolean) : Cond) ∈ lw_tbl := t8_in (List.mem_of_getElem? (i := 175) rfl)
set_option maxRecDepth 20000 in
theorem tw_49 : (.fieldLink RX12 48 "LowEnergyModel" "x" "[I" : Cond) ∈ lw_tbl := t7_in (List.mem_of_getElem? (i := 46) rfl)
set_option maxRecDepth 20000 in
theorem tw_50 : (.methodLink RL 51 yX11_advertise : Cond) ∈ lw_tbl := t3_in (List.mem_of_getElem? (i := 124) rfl)
set_option maxRecDepth 20000 in
theorem tw_51 : (.instanceMethod yX11_advertise : Cond) ∈ lw_tbl := t3_in (List.mem_of_getElem? (i := 125) rfl)
set_option maxRecDepth 20000 in
theorem tw_52 : (.selects RX11 yX11_advertise yX11_advertise : Cond) ∈ lw_tbl := t3_in (List.mem_of_getElem? (i := 126) rfl)
set_option maxRecDepth 20000 in
theorem tw_53 : (.code yX11_advertise cX11_advertise 4 (some .boolean) : Cond) ∈ lw_tbl := t3_in (List.mem_of_getElem? (i := 127) rfl)
set_option maxRecDepth 20000 in
theorem tw_54 : (.fieldLink RX11 65 "LowEnergy" "now" "I" : Cond) ∈ lw_tbl := t3_in (List.mem_of_getElem? (i := 88) rfl)
set_option maxRecDepth 20000 in
theorem tw_55 : (.methodLink RX11 74 yX9_become : Cond) ∈ lw_tbl := t3_in (List.mem_of_getElem? (i := 128) rfl)
set_option maxRecDepth 20000 in
theorem tw_56 : (.instanceMethod yX9_become : Cond) ∈ lw_tbl := t3_in (List.mem_of_getElem? (i := 129) rfl)
set_option maxRecDepth 20000 in
theorem tw_57 : (.selects RX9 yX9_become yX9_become : Cond) ∈ lw_tbl := t3_in (List.mem_of_getElem? (i := 130) rfl)
set_option maxRecDepth 20000 in
theorem tw_58 : (.code yX9_become cX9_become 2 none : Cond) ∈ lw_tbl := t3_in (List.mem_of_getElem? (i := 131) rfl)
set_option maxRecDepth 20000 in
theorem tw_59 : (.methodLink RX9 27 yX9_putPart : Cond) ∈ lw_tbl := t3_in (List.mem_of_getElem? (i := 132) rfl)
set_option maxRecDepth 20000 in
theorem tw_60 : (.instanceMethod yX9_putPart : Cond) ∈ lw_tbl := t3_in (List.mem_of_getElem? (i := 133) rfl)
set_option maxRecDepth 20000 in
theorem tw_61 : (.selects RX9 yX9_putPart yX9_putPart : Cond) ∈ lw_tbl := t3_in (List.mem_of_getElem? (i := 134) rfl)
set_option maxRecDepth 20000 in
theorem tw_62 : (.code yX9_putPart cX9_putPart 6 none : Cond) ∈ lw_tbl := t3_in (List.mem_of_getElem? (i := 135) rfl)
set_option maxRecDepth 20000 in
theorem tw_63 : (.methodLink RX9 9 Lib.Math.max.name : Cond) ∈ lw_tbl := t1_in (List.mem_of_getElem? (i := 46) rfl)
set_option maxRecDepth 20000 in
theorem tw_64 : (.static Lib.Math.max.name : Cond) ∈ lw_tbl := t1_in (List.mem_of_getElem? (i := 47) rfl)
set_option maxRecDepth 20000 in
theorem tw_65 : (.initialized "java/lang/Math" : Cond) ∈ lw_tbl := t1_in (List.mem_of_getElem? (i := 4) rfl)
set_option maxRecDepth 20000 in
theorem tw_66 : (.code Lib.Math.max.name Lib.Math.max.code 2 (some .int) : Cond) ∈ lw_tbl := t1_in (List.mem_of_getElem? (i := 48) rfl)
set_option maxRecDepth 20000 in
theorem tw_67 : (.methodLink RX11 78 yX9_clear : Cond) ∈ lw_tbl := t3_in (List.mem_of_getElem? (i := 136) rfl)
set_option maxRecDepth 20000 in
theorem tw_68 : (.instanceMethod yX9_clear : Cond) ∈ lw_tbl := t3_in (List.mem_of_getElem? (i := 137) rfl)
set_option maxRecDepth 20000 in
theorem tw_69 : (.selects RX9 yX9_clear yX9_clear : Cond) ∈ lw_tbl := t3_in (List.mem_of_getElem? (i := 138) rfl)
set_option maxRecDepth 20000 in
theorem tw_70 : (.code yX9_clear cX9_clear 1 none : Cond) ∈ lw_tbl := t3_in (List.mem_of_getElem? (i := 139) rfl)
set_option maxRecDepth 20000 in
theorem tw_71 : (.methodLink RL 54 yX12_advertise : Cond) ∈ lw_tbl := t10_in (List.mem_of_getElem? (i := 12) rfl)
set_option maxRecDepth 20000 in
theorem tw_72 : (.instanceMethod yX12_advertise : Cond) ∈ lw_tbl := t10_in (List.mem_of_getElem? (i := 13) rfl)
set_option maxRecDepth 20000 in
theorem tw_73 : (.selects RX12 yX12_advertise yX12_advertise : Cond) ∈ lw_tbl := t10_in (List.mem_of_getElem? (i := 14) rfl)
set_option maxRecDepth 20000 in
theorem tw_74 : (.code yX12_advertise cX12_advertise 3 (some .boolean) : Cond) ∈ lw_tbl := t10_in (List.mem_of_getElem? (i := 15) rfl)
set_option maxRecDepth 20000 in
theorem tw_75 : (.methodLink RX12 678 yX12_isStandby : Cond) ∈ lw_tbl := t10_in (List.mem_of_getElem? (i := 16) rfl)
set_option maxRecDepth 20000 in
theorem tw_76 : (.instanceMethod yX12_isStandby : Cond) ∈ lw_tbl := t10_in (List.mem_of_getElem? (i := 18) rfl)
set_option maxRecDepth 20000 in
theorem tw_77 : (.selects RX12 yX12_isStandby yX12_isStandby : Cond) ∈ lw_tbl := sel8_in (List.mem_of_getElem? (i := 1) rfl)
set_option maxRecDepth 20000 in
theorem tw_78 : (.code yX12_isStandby cX12_isStandby 2 (some .boolean) : Cond) ∈ lw_tbl := t10_in (List.mem_of_getElem? (i := 19) rfl)
set_option maxRecDepth 20000 in
theorem tw_79 : (.fieldLink RX12 45 "LowEnergyModel" "state" "[I" : Cond) ∈ lw_tbl := t7_in (List.mem_of_getElem? (i := 45) rfl)
set_option maxRecDepth 20000 in
theorem tw_80 : (.fieldLink RX12 51 "LowEnergyModel" "interval" "[I" : Cond) ∈ lw_tbl := t7_in (List.mem_of_getElem? (i := 47) rfl)
set_option maxRecDepth 20000 in
theorem tw_81 : (.fieldLink RX12 54 "LowEnergyModel" "next" "[I" : Cond) ∈ lw_tbl := t7_in (List.mem_of_getElem? (i := 48) rfl)
set_option maxRecDepth 20000 in
theorem tw_82 : (.fieldLink RX12 470 "LowEnergyModel" "t" "I" : Cond) ∈ lw_tbl := t7_in (List.mem_of_getElem? (i := 81) rfl)
set_option maxRecDepth 20000 in
theorem tw_83 : (.fieldLink RX12 57 "LowEnergyModel" "advertised" "[I" : Cond) ∈ lw_tbl := t7_in (List.mem_of_getElem? (i := 49) rfl)
set_option maxRecDepth 20000 in
theorem tw_84 : (.fieldLink RX12 82 "LowEnergyModel" "data" "[B" : Cond) ∈ lw_tbl := t7_in (List.mem_of_getElem? (i := 57) rfl)
set_option maxRecDepth 20000 in
theorem tw_85 : (.methodLink RX12 29 yX12_copy : Cond) ∈ lw_tbl := t8_in (List.mem_of_getElem? (i := 204) rfl)
set_option maxRecDepth 20000 in
theorem tw_86 : (.static yX12_copy : Cond) ∈ lw_tbl := t8_in (List.mem_of_getElem? (i := 205) rfl)
set_option maxRecDepth 20000 in
theorem tw_87 : (.code yX12_copy cX12_copy 6 none : Cond) ∈ lw_tbl := t8_in (List.mem_of_getElem? (i := 206) rfl)
set_option maxRecDepth 20000 in
theorem tw_88 : (.methodLink RL 55 yX11_scan : Cond) ∈ lw_tbl := t3_in (List.mem_of_getElem? (i := 140) rfl)
set_option maxRecDepth 20000 in
theorem tw_89 : (.instanceMethod yX11_scan : Cond) ∈ lw_tbl := t3_in (List.mem_of_getElem? (i := 141) rfl)
set_option maxRecDepth 20000 in
theorem tw_90 : (.selects RX11 yX11_scan yX11_scan : Cond) ∈ lw_tbl := t3_in (List.mem_of_getElem? (i := 142) rfl)
set_option maxRecDepth 20000 in
theorem tw_91 : (.code yX11_scan cX11_scan 3 (some .boolean) : Cond) ∈ lw_tbl := t3_in (List.mem_of_getElem? (i := 143) rfl)
set_option maxRecDepth 20000 in
theorem tw_92 : (.methodLink RL 59 yX12_scan : Cond) ∈ lw_tbl := t10_in (List.mem_of_getElem? (i := 20) rfl)
set_option maxRecDepth 20000 in
theorem tw_93 : (.instanceMethod yX12_scan : Cond) ∈ lw_tbl := t10_in (List.mem_of_getElem? (i := 21) rfl)
set_option maxRecDepth 20000 in
theorem tw_94 : (.selects RX12 yX12_scan yX12_scan : Cond) ∈ lw_tbl := t10_in (List.mem_of_getElem? (i := 22) rfl)
set_option maxRecDepth 20000 in
theorem tw_95 : (.code yX12_scan cX12_scan 2 (some .boolean) : Cond) ∈ lw_tbl := t10_in (List.mem_of_getElem? (i := 23) rfl)
set_option maxRecDepth 20000 in
theorem tw_96 : (.constantLong RL 60 (4294967295) : Cond) ∈ lw_tbl := t10_in (List.mem_of_getElem? (i := 115) rfl)
set_option maxRecDepth 20000 in
theorem tw_97 : (.methodLink RL 62 yX11_connect : Cond) ∈ lw_tbl := t3_in (List.mem_of_getElem? (i := 144) rfl)
set_option maxRecDepth 20000 in
theorem tw_98 : (.instanceMethod yX11_connect : Cond) ∈ lw_tbl := t3_in (List.mem_of_getElem? (i := 145) rfl)
set_option maxRecDepth 20000 in
theorem tw_99 : (.selects RX11 yX11_connect yX11_connect : Cond) ∈ lw_tbl := t3_in (List.mem_of_getElem? (i := 146) rfl)
set_option maxRecDepth 20000 in
theorem tw_100 : (.code yX11_connect cX11_connect 10 (some .boolean) : Cond) ∈ lw_tbl := t3_in (List.mem_of_getElem? (i := 147) rfl)
set_option maxRecDepth 20000 in
theorem tw_101 : (.methodLink RX11 81 yX6_isProper : Cond) ∈ lw_tbl := t3_in (List.mem_of_getElem? (i := 148) rfl)
set_option maxRecDepth 20000 in
theorem tw_102 : (.static yX6_isProper : Cond) ∈ lw_tbl := t3_in (List.mem_of_getElem? (i := 149) rfl)
set_option maxRecDepth 20000 in
theorem tw_103 : (.initialized RX6 : Cond) ∈ lw_tbl := t1_in (List.mem_of_getElem? (i := 7) rfl)
set_option maxRecDepth 20000 in
theorem tw_104 : (.code yX6_isProper cX6_isProper 5 (some .boolean) : Cond) ∈ lw_tbl := t3_in (List.mem_of_getElem? (i := 150) rfl)
set_option maxRecDepth 20000 in
theorem tw_105 : (.methodLink RX6 21 yX6_isProperMap : Cond) ∈ lw_tbl := t3_in (List.mem_of_getElem? (i := 151) rfl)
set_option maxRecDepth 20000 in
theorem tw_106 : (.static yX6_isProperMap : Cond) ∈ lw_tbl := t3_in (List.mem_of_getElem? (i := 152) rfl)
set_option maxRecDepth 20000 in
theorem tw_107 : (.code yX6_isProperMap cX6_isProperMap 2 (some .boolean) : Cond) ∈ lw_tbl := t3_in (List.mem_of_getElem? (i := 153) rfl)
set_option maxRecDepth 20000 in
theorem tw_108 : (.methodLink RX6 25 yJ13_bitCount_95d88 : Cond) ∈ lw_tbl := t3_in (List.mem_of_getElem? (i := 154) rfl)
set_option maxRecDepth 20000 in
theorem tw_109 : (.static yJ13_bitCount_95d88 : Cond) ∈ lw_tbl := t3_in (List.mem_of_getElem? (i := 155) rfl)
set_option maxRecDepth 20000 in
theorem tw_110 : (.initialized RJ13 : Cond) ∈ lw_tbl := t1_in (List.mem_of_getElem? (i := 15) rfl)
set_option maxRecDepth 20000 in
theorem tw_111 : (.code yJ13_bitCount_95d88 cJ13_bitCount_95d88 2 (some .int) : Cond) ∈ lw_tbl := t3_in (List.mem_of_getElem? (i := 156) rfl)
set_option maxRecDepth 20000 in
theorem tw_112 : (.constantLong RJ13 314 (6148914691236517205) : Cond) ∈ lw_tbl := t3_in (List.mem_of_getElem? (i := 157) rfl)
set_option maxRecDepth 20000 in
theorem tw_113 : (.constantLong RJ13 316 (3689348814741910323) : Cond) ∈ lw_tbl := t3_in (List.mem_of_getElem? (i := 158) rfl)
set_option maxRecDepth 20000 in
theorem tw_114 : (.constantLong RJ13 318 (1085102592571150095) : Cond) ∈ lw_tbl := t3_in (List.mem_of_getElem? (i := 159) rfl)
set_option maxRecDepth 20000 in
theorem tw_115 : (.methodLink RX11 91 yX6_arrange : Cond) ∈ lw_tbl := t3_in (List.mem_of_getElem? (i := 160) rfl)
set_option maxRecDepth 20000 in
theorem tw_116 : (.instanceMethod yX6_arrange : Cond) ∈ lw_tbl := t3_in (List.mem_of_getElem? (i := 161) rfl)
set_option maxRecDepth 20000 in
theorem tw_117 : (.selects RX6 yX6_arrange yX6_arrange : Cond) ∈ lw_tbl := t3_in (List.mem_of_getElem? (i := 162) rfl)
set_option maxRecDepth 20000 in
theorem tw_118 : (.code yX6_arrange cX6_arrange 6 none : Cond) ∈ lw_tbl := t3_in (List.mem_of_getElem? (i := 163) rfl)
set_option maxRecDepth 20000 in
theorem tw_119 : (.fieldLink RX6 31 "LowEnergy$Link" "interval" "I" : Cond) ∈ lw_tbl := t1_in (List.mem_of_getElem? (i := 134) rfl)
set_option maxRecDepth 20000 in
theorem tw_120 : (.fieldLink RX6 34 "LowEnergy$Link" "timeout" "I" : Cond) ∈ lw_tbl := t1_in (List.mem_of_getElem? (i := 136) rfl)
set_option maxRecDepth 20000 in
theorem tw_121 : (.fieldLink RX6 37 "LowEnergy$Link" "hop" "I" : Cond) ∈ lw_tbl := t1_in (List.mem_of_getElem? (i := 138) rfl)
set_option maxRecDepth 20000 in
theorem tw_122 : (.fieldLink RX6 40 "LowEnergy$Link" "map" "J" : Cond) ∈ lw_tbl := t1_in (List.mem_of_getElem? (i := 140) rfl)
set_option maxRecDepth 20000 in
theorem tw_123 : (.constantLong RX11 37 (281474976710655) : Cond) ∈ lw_tbl := t1_in (List.mem_of_getElem? (i := 117) rfl)
set_option maxRecDepth 20000 in
theorem tw_124 : (.methodLink RL 66 yX12_connect : Cond) ∈ lw_tbl := t10_in (List.mem_of_getElem? (i := 24) rfl)
set_option maxRecDepth 20000 in
theorem tw_125 : (.instanceMethod yX12_connect : Cond) ∈ lw_tbl := t10_in (List.mem_of_getElem? (i := 25) rfl)
set_option maxRecDepth 20000 in
theorem tw_126 : (.selects RX12 yX12_connect yX12_connect : Cond) ∈ lw_tbl := t10_in (List.mem_of_getElem? (i := 26) rfl)
set_option maxRecDepth 20000 in
theorem tw_127 : (.code yX12_connect cX12_connect 9 (some .boolean) : Cond) ∈ lw_tbl := t10_in (List.mem_of_getElem? (i := 27) rfl)
set_option maxRecDepth 20000 in
theorem tw_128 : (.methodLink RX12 497 yX12_isMap : Cond) ∈ lw_tbl := t9_in (List.mem_of_getElem? (i := 15) rfl)
set_option maxRecDepth 20000 in
theorem tw_129 : (.static yX12_isMap : Cond) ∈ lw_tbl := t9_in (List.mem_of_getElem? (i := 16) rfl)
set_option maxRecDepth 20000 in
theorem tw_130 : (.code yX12_isMap cX12_isMap 2 (some .boolean) : Cond) ∈ lw_tbl := t9_in (List.mem_of_getElem? (i := 17) rfl)
set_option maxRecDepth 20000 in
theorem tw_131 : (.constantLong RX12 396 (137438953472) : Cond) ∈ lw_tbl := t9_in (List.mem_of_getElem? (i := 18) rfl)
set_option maxRecDepth 20000 in
theorem tw_132 : (.methodLink RX12 398 yJ13_bitCount_95d88 : Cond) ∈ lw_tbl := t9_in (List.mem_of_getElem? (i := 19) rfl)
set_option maxRecDepth 20000 in
theorem tw_133 : (.fieldLink RX12 67 "LowEnergyModel" "wanted" "[J" : Cond) ∈ lw_tbl := t7_in (List.mem_of_getElem? (i := 52) rfl)
set_option maxRecDepth 20000 in
theorem tw_134 : (.constantLong RX12 389 (281474976710655) : Cond) ∈ lw_tbl := t7_in (List.mem_of_getElem? (i := 33) rfl)
set_option maxRecDepth 20000 in
theorem tw_135 : (.fieldLink RX12 103 "LowEnergyModel" "timeout" "[I" : Cond) ∈ lw_tbl := t7_in (List.mem_of_getElem? (i := 64) rfl)
set_option maxRecDepth 20000 in
theorem tw_136 : (.fieldLink RX12 106 "LowEnergyModel" "hop" "[I" : Cond) ∈ lw_tbl := t7_in (List.mem_of_getElem? (i := 65) rfl)
set_option maxRecDepth 20000 in
theorem tw_137 : (.fieldLink RX12 70 "LowEnergyModel" "map" "[J" : Cond) ∈ lw_tbl := t7_in (List.mem_of_getElem? (i := 53) rfl)
set_option maxRecDepth 20000 in
theorem tw_138 : (.methodLink RL 67 yX11_stop : Cond) ∈ lw_tbl := t3_in (List.mem_of_getElem? (i := 164) rfl)
set_option maxRecDepth 20000 in
theorem tw_139 : (.instanceMethod yX11_stop : Cond) ∈ lw_tbl := t3_in (List.mem_of_getElem? (i := 165) rfl)
set_option maxRecDepth 20000 in
theorem tw_140 : (.selects RX11 yX11_stop yX11_stop : Cond) ∈ lw_tbl := t3_in (List.mem_of_getElem? (i := 166) rfl)
set_option maxRecDepth 20000 in
theorem tw_141 : (.code yX11_stop cX11_stop 3 (some .boolean) : Cond) ∈ lw_tbl := t3_in (List.mem_of_getElem? (i := 167) rfl)
set_option maxRecDepth 20000 in
theorem tw_142 : (.methodLink RX11 99 yX3_inLink : Cond) ∈ lw_tbl := t3_in (List.mem_of_getElem? (i := 168) rfl)
set_option maxRecDepth 20000 in
theorem tw_143 : (.instanceMethod yX3_inLink : Cond) ∈ lw_tbl := t3_in (List.mem_of_getElem? (i := 169) rfl)
set_option maxRecDepth 20000 in
theorem tw_144 : (.selects RX3 yX3_inLink yX3_inLink : Cond) ∈ lw_tbl := t3_in (List.mem_of_getElem? (i := 170) rfl)
set_option maxRecDepth 20000 in
theorem tw_145 : (.initialized RX3 : Cond) ∈ lw_tbl := t1_in (List.mem_of_getElem? (i := 6) rfl)
set_option maxRecDepth 20000 in
theorem tw_146 : (.code yX3_inLink cX3_inLink 1 (some .boolean) : Cond) ∈ lw_tbl := t3_in (List.mem_of_getElem? (i := 171) rfl)
set_option maxRecDepth 20000 in
theorem tw_147 : (.fieldLink RX3 93 "LowEnergy$Device" "state" "I" : Cond) ∈ lw_tbl := t3_in (List.mem_of_getElem? (i := 11) rfl)
set_option maxRecDepth 20000 in
theorem tw_148 : (.methodLink RL 70 yX12_stop : Cond) ∈ lw_tbl := t10_in (List.mem_of_getElem? (i := 28) rfl)
set_option maxRecDepth 20000 in
theorem tw_149 : (.instanceMethod yX12_stop : Cond) ∈ lw_tbl := t10_in (List.mem_of_getElem? (i := 29) rfl)
set_option maxRecDepth 20000 in
theorem tw_150 : (.selects RX12 yX12_stop yX12_stop : Cond) ∈ lw_tbl := t10_in (List.mem_of_getElem? (i := 30) rfl)
set_option maxRecDepth 20000 in
theorem tw_151 : (.code yX12_stop cX12_stop 2 (some .boolean) : Cond) ∈ lw_tbl := t10_in (List.mem_of_getElem? (i := 31) rfl)
set_option maxRecDepth 20000 in
theorem tw_152 : (.methodLink RL 71 yL_tick : Cond) ∈ lw_tbl := t4_in (List.mem_of_getElem? (i := 171) rfl)
set_option maxRecDepth 20000 in
theorem tw_153 : (.static yL_tick : Cond) ∈ lw_tbl := t4_in (List.mem_of_getElem? (i := 172) rfl)
set_option maxRecDepth 20000 in
theorem tw_154 : (.initialized RL : Cond) ∈ lw_tbl := t1_in (List.mem_of_getElem? (i := 0) rfl)
set_option maxRecDepth 20000 in
theorem tw_155 : (.codeWith yL_tick cL_tick 4 (some .int) [(0, 9, 12, 13)] : Cond) ∈ lw_tbl := t4_in (List.mem_of_getElem? (i := 173) rfl)
set_option maxRecDepth 20000 in
theorem tw_156 : (.methodLink RL 7 yX11_tick : Cond) ∈ lw_tbl := t4_in (List.mem_of_getElem? (i := 175) rfl)
set_option maxRecDepth 20000 in
theorem tw_157 : (.instanceMethod yX11_tick : Cond) ∈ lw_tbl := t4_in (List.mem_of_getElem? (i := 176) rfl)
set_option maxRecDepth 20000 in
theorem tw_158 : (.selects RX11 yX11_tick yX11_tick : Cond) ∈ lw_tbl := t4_in (List.mem_of_getElem? (i := 177) rfl)
set_option maxRecDepth 20000 in
theorem tw_159 : (.code yX11_tick cX11_tick 7 (some .int) : Cond) ∈ lw_tbl := t4_in (List.mem_of_getElem? (i := 178) rfl)
set_option maxRecDepth 20000 in
theorem tw_160 : (.methodLink RX11 413 yX11_sendPacket : Cond) ∈ lw_tbl := t5_in (List.mem_of_getElem? (i := 117) rfl)
set_option maxRecDepth 20000 in
theorem tw_161 : (.instanceMethod yX11_sendPacket : Cond) ∈ lw_tbl := t5_in (List.mem_of_getElem? (i := 119) rfl)
set_option maxRecDepth 20000 in
theorem tw_162 : (.selects RX11 yX11_sendPacket yX11_sendPacket : Cond) ∈ lw_tbl := sel1_in (List.mem_of_getElem? (i := 14) rfl)
set_option maxRecDepth 20000 in
theorem tw_163 : (.code yX11_sendPacket cX11_sendPacket 5 none : Cond) ∈ lw_tbl := t5_in (List.mem_of_getElem? (i := 120) rfl)
set_option maxRecDepth 20000 in
theorem tw_164 : (.fieldLink RX11 18 "LowEnergy" "sky" "LLowEnergy$Air;" : Cond) ∈ lw_tbl := t3_in (List.mem_of_getElem? (i := 85) rfl)
set_option maxRecDepth 20000 in
theorem tw_165 : (.methodLink RX11 435 yX0_transmit : Cond) ∈ lw_tbl := t5_in (List.mem_of_getElem? (i := 18) rfl)
set_option maxRecDepth 20000 in
theorem tw_166 : (.instanceMethod yX0_transmit : Cond) ∈ lw_tbl := t5_in (List.mem_of_getElem? (i := 19) rfl)
set_option maxRecDepth 20000 in
theorem tw_167 : (.selects RX0 yX0_transmit yX0_transmit : Cond) ∈ lw_tbl := t5_in (List.mem_of_getElem? (i := 20) rfl)
set_option maxRecDepth 20000 in
theorem tw_168 : (.initialized RX0 : Cond) ∈ lw_tbl := t1_in (List.mem_of_getElem? (i := 2) rfl)
set_option maxRecDepth 20000 in
theorem tw_169 : (.code yX0_transmit cX0_transmit 8 none : Cond) ∈ lw_tbl := t5_in (List.mem_of_getElem? (i := 21) rfl)
set_option maxRecDepth 20000 in
theorem tw_170 : (.fieldLink RX0 78 "LowEnergy$Air" "latestIsLost" "Z" : Cond) ∈ lw_tbl := t1_in (List.mem_of_getElem? (i := 79) rfl)
set_option maxRecDepth 20000 in
theorem tw_171 : (.fieldLink RX0 29 "LowEnergy$Air" "losses" "[I" : Cond) ∈ lw_tbl := t1_in (List.mem_of_getElem? (i := 71) rfl)
set_option maxRecDepth 20000 in
theorem tw_172 : (.fieldLink RX0 42 "LowEnergy$Air" "count" "I" : Cond) ∈ lw_tbl := t1_in (List.mem_of_getElem? (i := 77) rfl)
set_option maxRecDepth 20000 in
theorem tw_173 : (.fieldLink RX0 13 "LowEnergy$Air" "packets" "[LLowEnergy$Row;" : Cond) ∈ lw_tbl := t1_in (List.mem_of_getElem? (i := 67) rfl)
set_option maxRecDepth 20000 in
theorem tw_174 : (.methodLink RX0 53 yX9_clear : Cond) ∈ lw_tbl := t5_in (List.mem_of_getElem? (i := 22) rfl)
set_option maxRecDepth 20000 in
theorem tw_175 : (.methodLink RX0 56 yX9_putNumber : Cond) ∈ lw_tbl := t5_in (List.mem_of_getElem? (i := 23) rfl)
set_option maxRecDepth 20000 in
theorem tw_176 : (.instanceMethod yX9_putNumber : Cond) ∈ lw_tbl := t4_in (List.mem_of_getElem? (i := 1) rfl)
set_option maxRecDepth 20000 in
theorem tw_177 : (.selects RX9 yX9_putNumber yX9_putNumber : Cond) ∈ lw_tbl := t4_in (List.mem_of_getElem? (i := 2) rfl)
set_option maxRecDepth 20000 in
theorem tw_178 : (.code yX9_putNumber cX9_putNumber 5 none : Cond) ∈ lw_tbl := t4_in (List.mem_of_getElem? (i := 3) rfl)
set_option maxRecDepth 20000 in
theorem tw_179 : (.constantLong RX9 25 (255) : Cond) ∈ lw_tbl := t4_in (List.mem_of_getElem? (i := 4) rfl)
set_option maxRecDepth 20000 in
theorem tw_180 : (.methodLink RX0 60 yX9_put : Cond) ∈ lw_tbl := t5_in (List.mem_of_getElem? (i := 24) rfl)
set_option maxRecDepth 20000 in
theorem tw_181 : (.instanceMethod yX9_put : Cond) ∈ lw_tbl := t3_in (List.mem_of_getElem? (i := 237) rfl)
set_option maxRecDepth 20000 in
theorem tw_182 : (.selects RX9 yX9_put yX9_put : Cond) ∈ lw_tbl := t3_in (List.mem_of_getElem? (i := 238) rfl)
set_option maxRecDepth 20000 in
theorem tw_183 : (.code yX9_put cX9_put 2 none : Cond) ∈ lw_tbl := t3_in (List.mem_of_getElem? (i := 239) rfl)
set_option maxRecDepth 20000 in
theorem tw_184 : (.methodLink RX0 63 yX9_putPart : Cond) ∈ lw_tbl := t5_in (List.mem_of_getElem? (i := 25) rfl)
set_option maxRecDepth 20000 in
theorem tw_185 : (.methodLink RX0 67 yX0_crcInOrder : Cond) ∈ lw_tbl := t5_in (List.mem_of_getElem? (i := 26) rfl)
set_option maxRecDepth 20000 in
theorem tw_186 : (.static yX0_crcInOrder : Cond) ∈ lw_tbl := t5_in (List.mem_of_getElem? (i := 27) rfl)
set_option maxRecDepth 20000 in
theorem tw_187 : (.code yX0_crcInOrder cX0_crcInOrder 7 (some .int) : Cond) ∈ lw_tbl := t5_in (List.mem_of_getElem? (i := 28) rfl)
set_option maxRecDepth 20000 in
theorem tw_188 : (.constant RX0 100 (16777215) : Cond) ∈ lw_tbl := t5_in (List.mem_of_getElem? (i := 29) rfl)
set_option maxRecDepth 20000 in
theorem tw_189 : (.methodLink RX0 71 yX0_whiten : Cond) ∈ lw_tbl := t5_in (List.mem_of_getElem? (i := 30) rfl)
set_option maxRecDepth 20000 in
theorem tw_190 : (.static yX0_whiten : Cond) ∈ lw_tbl := t5_in (List.mem_of_getElem? (i := 31) rfl)
set_option maxRecDepth 20000 in
theorem tw_191 : (.code yX0_whiten cX0_whiten 7 none : Cond) ∈ lw_tbl := t5_in (List.mem_of_getElem? (i := 32) rfl)
set_option maxRecDepth 20000 in
theorem tw_192 : (.methodLink RX0 75 yX0_disturb : Cond) ∈ lw_tbl := t5_in (List.mem_of_getElem? (i := 33) rfl)
set_option maxRecDepth 20000 in
theorem tw_193 : (.instanceMethod yX0_disturb : Cond) ∈ lw_tbl := t5_in (List.mem_of_getElem? (i := 35) rfl)
set_option maxRecDepth 20000 in
theorem tw_194 : (.selects RX0 yX0_disturb yX0_disturb : Cond) ∈ lw_tbl := sel1_in (List.mem_of_getElem? (i := 9) rfl)
set_option maxRecDepth 20000 in
theorem tw_195 : (.code yX0_disturb cX0_disturb 5 none : Cond) ∈ lw_tbl := t5_in (List.mem_of_getElem? (i := 36) rfl)
set_option maxRecDepth 20000 in
theorem tw_196 : (.fieldLink RX0 26 "LowEnergy$Air" "noiseCounts" "[I" : Cond) ∈ lw_tbl := t1_in (List.mem_of_getElem? (i := 70) rfl)
set_option maxRecDepth 20000 in
theorem tw_197 : (.fieldLink RX0 23 "LowEnergy$Air" "noises" "[[I" : Cond) ∈ lw_tbl := t1_in (List.mem_of_getElem? (i := 69) rfl)
set_option maxRecDepth 20000 in
theorem tw_198 : (.methodLink RX0 82 yX9_turn : Cond) ∈ lw_tbl := t5_in (List.mem_of_getElem? (i := 37) rfl)
set_option maxRecDepth 20000 in
theorem tw_199 : (.instanceMethod yX9_turn : Cond) ∈ lw_tbl := t5_in (List.mem_of_getElem? (i := 38) rfl)
set_option maxRecDepth 20000 in
theorem tw_200 : (.selects RX9 yX9_turn yX9_turn : Cond) ∈ lw_tbl := t5_in (List.mem_of_getElem? (i := 39) rfl)
set_option maxRecDepth 20000 in
theorem tw_201 : (.code yX9_turn cX9_turn 3 none : Cond) ∈ lw_tbl := t5_in (List.mem_of_getElem? (i := 40) rfl)
set_option maxRecDepth 20000 in
theorem tw_202 : (.fieldLink RX0 17 "LowEnergy$Air" "channels" "[I" : Cond) ∈ lw_tbl := t1_in (List.mem_of_getElem? (i := 68) rfl)
set_option maxRecDepth 20000 in
theorem tw_203 : (.methodLink RX11 512 yX5_seal : Cond) ∈ lw_tbl := t5_in (List.mem_of_getElem? (i := 139) rfl)
set_option maxRecDepth 20000 in
theorem tw_204 : (.instanceMethod yX5_seal : Cond) ∈ lw_tbl := t5_in (List.mem_of_getElem? (i := 140) rfl)
set_option maxRecDepth 20000 in
theorem tw_205 : (.selects RX5 yX5_seal yX5_seal : Cond) ∈ lw_tbl := t5_in (List.mem_of_getElem? (i := 141) rfl)
set_option maxRecDepth 20000 in
theorem tw_206 : (.initialized RX5 : Cond) ∈ lw_tbl := t1_in (List.mem_of_getElem? (i := 12) rfl)
set_option maxRecDepth 20000 in
theorem tw_207 : (.code yX5_seal cX5_seal 6 none : Cond) ∈ lw_tbl := t5_in (List.mem_of_getElem? (i := 142) rfl)
set_option maxRecDepth 20000 in
theorem tw_208 : (.fieldLink RX5 51 "LowEnergy$Guard" "sent" "I" : Cond) ∈ lw_tbl := t2_in (List.mem_of_getElem? (i := 172) rfl)
set_option maxRecDepth 20000 in
theorem tw_209 : (.fieldLink RX5 22 "LowEnergy$Guard" "mac" "[I" : Cond) ∈ lw_tbl := t2_in (List.mem_of_getElem? (i := 176) rfl)
set_option maxRecDepth 20000 in
theorem tw_210 : (.fieldLink RX5 25 "LowEnergy$Guard" "pad" "[I" : Cond) ∈ lw_tbl := t2_in (List.mem_of_getElem? (i := 177) rfl)
set_option maxRecDepth 20000 in
theorem tw_211 : (.methodLink RX5 61 yX9_put : Cond) ∈ lw_tbl := t4_in (List.mem_of_getElem? (i := 35) rfl)
set_option maxRecDepth 20000 in
theorem tw_212 : (.fieldLink RX5 28 "LowEnergy$Guard" "cipher" "LLowEnergy$Cipher;" : Cond) ∈ lw_tbl := t2_in (List.mem_of_getElem? (i := 148) rfl)
set_option maxRecDepth 20000 in
theorem tw_213 : (.fieldLink RX5 16 "LowEnergy$Guard" "session" "[I" : Cond) ∈ lw_tbl := t2_in (List.mem_of_getElem? (i := 155) rfl)
set_option maxRecDepth 20000 in
theorem tw_214 : (.methodLink RX5 71 yX1_loadKey : Cond) ∈ lw_tbl := t5_in (List.mem_of_getElem? (i := 143) rfl)
set_option maxRecDepth 20000 in
theorem tw_215 : (.instanceMethod yX1_loadKey : Cond) ∈ lw_tbl := t5_in (List.mem_of_getElem? (i := 144) rfl)
set_option maxRecDepth 20000 in
theorem tw_216 : (.selects RX1 yX1_loadKey yX1_loadKey : Cond) ∈ lw_tbl := t5_in (List.mem_of_getElem? (i := 145) rfl)
set_option maxRecDepth 20000 in
theorem tw_217 : (.initialized RX1 : Cond) ∈ lw_tbl := t1_in (List.mem_of_getElem? (i := 5) rfl)
set_option maxRecDepth 20000 in
theorem tw_218 : (.code yX1_loadKey cX1_loadKey 6 none : Cond) ∈ lw_tbl := t5_in (List.mem_of_getElem? (i := 146) rfl)
set_option maxRecDepth 20000 in
theorem tw_219 : (.fieldLink RX1 9 "LowEnergy$Cipher" "roundKeys" "[I" : Cond) ∈ lw_tbl := t1_in (List.mem_of_getElem? (i := 109) rfl)
set_option maxRecDepth 20000 in
theorem tw_220 : (.fieldLink RX1 16 "LowEnergy$Cipher" "SBOX" "[I" : Cond) ∈ lw_tbl := t5_in (List.mem_of_getElem? (i := 147) rfl)
set_option maxRecDepth 20000 in
theorem tw_221 : (.methodLink RX5 83 yX5_findMac : Cond) ∈ lw_tbl := t5_in (List.mem_of_getElem? (i := 149) rfl)
set_option maxRecDepth 20000 in
theorem tw_222 : (.instanceMethod yX5_findMac : Cond) ∈ lw_tbl := t5_in (List.mem_of_getElem? (i := 151) rfl)
set_option maxRecDepth 20000 in
theorem tw_223 : (.selects RX5 yX5_findMac yX5_findMac : Cond) ∈ lw_tbl := sel2_in (List.mem_of_getElem? (i := 0) rfl)
set_option maxRecDepth 20000 in
theorem tw_224 : (.code yX5_findMac cX5_findMac 8 none : Cond) ∈ lw_tbl := t5_in (List.mem_of_getElem? (i := 152) rfl)
set_option maxRecDepth 20000 in
theorem tw_225 : (.methodLink RX5 77 yX1_encipher : Cond) ∈ lw_tbl := t5_in (List.mem_of_getElem? (i := 158) rfl)
set_option maxRecDepth 20000 in
theorem tw_226 : (.instanceMethod yX1_encipher : Cond) ∈ lw_tbl := t5_in (List.mem_of_getElem? (i := 159) rfl)
set_option maxRecDepth 20000 in
theorem tw_227 : (.selects RX1 yX1_encipher yX1_encipher : Cond) ∈ lw_tbl := t5_in (List.mem_of_getElem? (i := 160) rfl)
set_option maxRecDepth 20000 in
theorem tw_228 : (.code yX1_encipher cX1_encipher 7 none : Cond) ∈ lw_tbl := t5_in (List.mem_of_getElem? (i := 161) rfl)
set_option maxRecDepth 20000 in
theorem tw_229 : (.fieldLink RX1 13 "LowEnergy$Cipher" "moved" "[I" : Cond) ∈ lw_tbl := t1_in (List.mem_of_getElem? (i := 110) rfl)
set_option maxRecDepth 20000 in
theorem tw_230 : (.methodLink RX5 67 yX9_at : Cond) ∈ lw_tbl := t5_in (List.mem_of_getElem? (i := 162) rfl)
set_option maxRecDepth 20000 in
theorem tw_231 : (.instanceMethod yX9_at : Cond) ∈ lw_tbl := t4_in (List.mem_of_getElem? (i := 57) rfl)
set_option maxRecDepth 20000 in
theorem tw_232 : (.selects RX9 yX9_at yX9_at : Cond) ∈ lw_tbl := t4_in (List.mem_of_getElem? (i := 58) rfl)
set_option maxRecDepth 20000 in
theorem tw_233 : (.code yX9_at cX9_at 2 (some .int) : Cond) ∈ lw_tbl := t4_in (List.mem_of_getElem? (i := 59) rfl)
set_option maxRecDepth 20000 in
theorem tw_234 : (.methodLink RX5 94 yX5_fillNonce : Cond) ∈ lw_tbl := t5_in (List.mem_of_getElem? (i := 153) rfl)
set_option maxRecDepth 20000 in
theorem tw_235 : (.instanceMethod yX5_fillNonce : Cond) ∈ lw_tbl := t5_in (List.mem_of_getElem? (i := 155) rfl)
set_option maxRecDepth 20000 in
theorem tw_236 : (.selects RX5 yX5_fillNonce yX5_fillNonce : Cond) ∈ lw_tbl := sel2_in (List.mem_of_getElem? (i := 1) rfl)
set_option maxRecDepth 20000 in
theorem tw_237 : (.code yX5_fillNonce cX5_fillNonce 8 none : Cond) ∈ lw_tbl := t5_in (List.mem_of_getElem? (i := 156) rfl)
set_option maxRecDepth 20000 in
theorem tw_238 : (.fieldLink RX5 19 "LowEnergy$Guard" "iv" "[I" : Cond) ∈ lw_tbl := t2_in (List.mem_of_getElem? (i := 157) rfl)
set_option maxRecDepth 20000 in
theorem tw_239 : (.constantLong RX5 102 (255) : Cond) ∈ lw_tbl := t5_in (List.mem_of_getElem? (i := 157) rfl)
set_option maxRecDepth 20000 in
theorem tw_240 : (.methodLink RX5 87 yX5_whitenBySession : Cond) ∈ lw_tbl := t5_in (List.mem_of_getElem? (i := 163) rfl)
set_option maxRecDepth 20000 in
theorem tw_241 : (.instanceMethod yX5_whitenBySession : Cond) ∈ lw_tbl := t5_in (List.mem_of_getElem? (i := 165) rfl)
set_option maxRecDepth 20000 in
theorem tw_242 : (.selects RX5 yX5_whitenBySession yX5_whitenBySession : Cond) ∈ lw_tbl := sel2_in (List.mem_of_getElem? (i := 2) rfl)
set_option maxRecDepth 20000 in
theorem tw_243 : (.code yX5_whitenBySession cX5_whitenBySession 7 none : Cond) ∈ lw_tbl := t5_in (List.mem_of_getElem? (i := 166) rfl)
set_option maxRecDepth 20000 in
theorem tw_244 : (.methodLink RX5 98 yX9_turn : Cond) ∈ lw_tbl := t5_in (List.mem_of_getElem? (i := 167) rfl)
set_option maxRecDepth 20000 in
theorem tw_245 : (.methodLink RX11 502 yX6_giveReason : Cond) ∈ lw_tbl := t5_in (List.mem_of_getElem? (i := 121) rfl)
set_option maxRecDepth 20000 in
theorem tw_246 : (.instanceMethod yX6_giveReason : Cond) ∈ lw_tbl := t5_in (List.mem_of_getElem? (i := 122) rfl)
set_option maxRecDepth 20000 in
theorem tw_247 : (.selects RX6 yX6_giveReason yX6_giveReason : Cond) ∈ lw_tbl := t5_in (List.mem_of_getElem? (i := 123) rfl)
set_option maxRecDepth 20000 in
theorem tw_248 : (.code yX6_giveReason cX6_giveReason 2 none : Cond) ∈ lw_tbl := t5_in (List.mem_of_getElem? (i := 124) rfl)
set_option maxRecDepth 20000 in
theorem tw_249 : (.fieldLink RX6 15 "LowEnergy$Link" "reason" "I" : Cond) ∈ lw_tbl := t1_in (List.mem_of_getElem? (i := 163) rfl)
set_option maxRecDepth 20000 in
theorem tw_250 : (.methodLink RX11 505 yX7_pickNext : Cond) ∈ lw_tbl := t5_in (List.mem_of_getElem? (i := 125) rfl)
set_option maxRecDepth 20000 in
theorem tw_251 : (.instanceMethod yX7_pickNext : Cond) ∈ lw_tbl := t5_in (List.mem_of_getElem? (i := 126) rfl)
set_option maxRecDepth 20000 in
theorem tw_252 : (.selects RX7 yX7_pickNext yX7_pickNext : Cond) ∈ lw_tbl := t5_in (List.mem_of_getElem? (i := 127) rfl)
set_option maxRecDepth 20000 in
theorem tw_253 : (.initialized RX7 : Cond) ∈ lw_tbl := t1_in (List.mem_of_getElem? (i := 8) rfl)
set_option maxRecDepth 20000 in
theorem tw_254 : (.code yX7_pickNext cX7_pickNext 2 none : Cond) ∈ lw_tbl := t5_in (List.mem_of_getElem? (i := 128) rfl)
set_option maxRecDepth 20000 in
theorem tw_255 : (.fieldLink RX7 65 "LowEnergy$Mail" "sort" "I" : Cond) ∈ lw_tbl := t1_in (List.mem_of_getElem? (i := 220) rfl)
set_option maxRecDepth 20000 in
theorem tw_256 : (.methodLink RX7 36 yX7_dropCurrent : Cond) ∈ lw_tbl := t5_in (List.mem_of_getElem? (i := 129) rfl)
set_option maxRecDepth 20000 in
theorem tw_257 : (.instanceMethod yX7_dropCurrent : Cond) ∈ lw_tbl := t5_in (List.mem_of_getElem? (i := 130) rfl)
set_option maxRecDepth 20000 in
theorem tw_258 : (.selects RX7 yX7_dropCurrent yX7_dropCurrent : Cond) ∈ lw_tbl := t5_in (List.mem_of_getElem? (i := 131) rfl)
set_option maxRecDepth 20000 in
theorem tw_259 : (.code yX7_dropCurrent cX7_dropCurrent 1 none : Cond) ∈ lw_tbl := t5_in (List.mem_of_getElem? (i := 132) rfl)
set_option maxRecDepth 20000 in
theorem tw_260 : (.fieldLink RX7 14 "LowEnergy$Mail" "current" "LLowEnergy$Row;" : Cond) ∈ lw_tbl := t1_in (List.mem_of_getElem? (i := 218) rfl)
set_option maxRecDepth 20000 in
theorem tw_261 : (.methodLink RX7 62 yX9_clear : Cond) ∈ lw_tbl := t3_in (List.mem_of_getElem? (i := 235) rfl)
set_option maxRecDepth 20000 in
theorem tw_262 : (.fieldLink RX7 68 "LowEnergy$Mail" "currentOp" "I" : Cond) ∈ lw_tbl := t1_in (List.mem_of_getElem? (i := 222) rfl)
set_option maxRecDepth 20000 in
theorem tw_263 : (.fieldLink RX7 43 "LowEnergy$Mail" "controlCount" "I" : Cond) ∈ lw_tbl := t1_in (List.mem_of_getElem? (i := 226) rfl)
set_option maxRecDepth 20000 in
theorem tw_264 : (.fieldLink RX7 53 "LowEnergy$Mail" "messageCount" "I" : Cond) ∈ lw_tbl := t1_in (List.mem_of_getElem? (i := 233) rfl)
set_option maxRecDepth 20000 in
theorem tw_265 : (.fieldLink RX7 24 "LowEnergy$Mail" "messages" "[LLowEnergy$Row;" : Cond) ∈ lw_tbl := t1_in (List.mem_of_getElem? (i := 231) rfl)
set_option maxRecDepth 20000 in
theorem tw_266 : (.fieldLink RX7 50 "LowEnergy$Mail" "messageHead" "I" : Cond) ∈ lw_tbl := t1_in (List.mem_of_getElem? (i := 232) rfl)
set_option maxRecDepth 20000 in
theorem tw_267 : (.methodLink RX7 103 yX7_pickPiece : Cond) ∈ lw_tbl := t5_in (List.mem_of_getElem? (i := 135) rfl)
set_option maxRecDepth 20000 in
theorem tw_268 : (.instanceMethod yX7_pickPiece : Cond) ∈ lw_tbl := t5_in (List.mem_of_getElem? (i := 137) rfl)
set_option maxRecDepth 20000 in
theorem tw_269 : (.selects RX7 yX7_pickPiece yX7_pickPiece : Cond) ∈ lw_tbl := sel1_in (List.mem_of_getElem? (i := 15) rfl)
set_option maxRecDepth 20000 in
theorem tw_270 : (.code yX7_pickPiece cX7_pickPiece 2 none : Cond) ∈ lw_tbl := t5_in (List.mem_of_getElem? (i := 138) rfl)
set_option maxRecDepth 20000 in
theorem tw_271 : (.fieldLink RX7 56 "LowEnergy$Mail" "placed" "I" : Cond) ∈ lw_tbl := t1_in (List.mem_of_getElem? (i := 235) rfl)
set_option maxRecDepth 20000 in
theorem tw_272 : (.methodLink RX7 91 yX9_putPart : Cond) ∈ lw_tbl := t4_in (List.mem_of_getElem? (i := 69) rfl)
set_option maxRecDepth 20000 in
theorem tw_273 : (.fieldLink RX7 20 "LowEnergy$Mail" "controls" "[LLowEnergy$Row;" : Cond) ∈ lw_tbl := t1_in (List.mem_of_getElem? (i := 224) rfl)
set_option maxRecDepth 20000 in
theorem tw_274 : (.fieldLink RX7 39 "LowEnergy$Mail" "controlHead" "I" : Cond) ∈ lw_tbl := t1_in (List.mem_of_getElem? (i := 225) rfl)
set_option maxRecDepth 20000 in
theorem tw_275 : (.methodLink RX7 95 yX9_become : Cond) ∈ lw_tbl := t5_in (List.mem_of_getElem? (i := 133) rfl)
set_option maxRecDepth 20000 in
theorem tw_276 : (.methodLink RX7 99 yX9_at : Cond) ∈ lw_tbl := t5_in (List.mem_of_getElem? (i := 134) rfl)
set_option maxRecDepth 20000 in
theorem tw_277 : (.methodLink RX11 405 yX11_bringsLetter : Cond) ∈ lw_tbl := t5_in (List.mem_of_getElem? (i := 168) rfl)
set_option maxRecDepth 20000 in
theorem tw_278 : (.instanceMethod yX11_bringsLetter : Cond) ∈ lw_tbl := t5_in (List.mem_of_getElem? (i := 170) rfl)
set_option maxRecDepth 20000 in
theorem tw_279 : (.selects RX11 yX11_bringsLetter yX11_bringsLetter : Cond) ∈ lw_tbl := sel2_in (List.mem_of_getElem? (i := 3) rfl)
set_option maxRecDepth 20000 in
theorem tw_280 : (.code yX11_bringsLetter cX11_bringsLetter 4 (some .boolean) : Cond) ∈ lw_tbl := t5_in (List.mem_of_getElem? (i := 171) rfl)
set_option maxRecDepth 20000 in
theorem tw_281 : (.methodLink RX11 533 yX7_gather : Cond) ∈ lw_tbl := t5_in (List.mem_of_getElem? (i := 237) rfl)
set_option maxRecDepth 20000 in
theorem tw_282 : (.instanceMethod yX7_gather : Cond) ∈ lw_tbl := t5_in (List.mem_of_getElem? (i := 238) rfl)
set_option maxRecDepth 20000 in
theorem tw_283 : (.selects RX7 yX7_gather yX7_gather : Cond) ∈ lw_tbl := t5_in (List.mem_of_getElem? (i := 239) rfl)
set_option maxRecDepth 20000 in
theorem tw_284 : (.code yX7_gather cX7_gather 4 (some .boolean) : Cond) ∈ lw_tbl := t6_in (List.mem_of_getElem? (i := 0) rfl)
set_option maxRecDepth 20000 in
theorem tw_285 : (.fieldLink RX7 59 "LowEnergy$Mail" "begun" "Z" : Cond) ∈ lw_tbl := t1_in (List.mem_of_getElem? (i := 237) rfl)
set_option maxRecDepth 20000 in
theorem tw_286 : (.fieldLink RX7 27 "LowEnergy$Mail" "gathered" "LLowEnergy$Row;" : Cond) ∈ lw_tbl := t1_in (List.mem_of_getElem? (i := 236) rfl)
set_option maxRecDepth 20000 in
theorem tw_287 : (.methodLink RX7 106 yX9_two : Cond) ∈ lw_tbl := t6_in (List.mem_of_getElem? (i := 1) rfl)
set_option maxRecDepth 20000 in
theorem tw_288 : (.instanceMethod yX9_two : Cond) ∈ lw_tbl := t5_in (List.mem_of_getElem? (i := 91) rfl)
set_option maxRecDepth 20000 in
theorem tw_289 : (.selects RX9 yX9_two yX9_two : Cond) ∈ lw_tbl := t5_in (List.mem_of_getElem? (i := 92) rfl)
set_option maxRecDepth 20000 in
theorem tw_290 : (.code yX9_two cX9_two 2 (some .int) : Cond) ∈ lw_tbl := t5_in (List.mem_of_getElem? (i := 93) rfl)
set_option maxRecDepth 20000 in
theorem tw_291 : (.fieldLink RX7 109 "LowEnergy$Mail" "letterChannel" "I" : Cond) ∈ lw_tbl := t2_in (List.mem_of_getElem? (i := 0) rfl)
set_option maxRecDepth 20000 in
theorem tw_292 : (.fieldLink RX7 30 "LowEnergy$Mail" "letter" "LLowEnergy$Row;" : Cond) ∈ lw_tbl := t1_in (List.mem_of_getElem? (i := 238) rfl)
set_option maxRecDepth 20000 in
theorem tw_293 : (.methodLink RX7 84 yX7_isFull : Cond) ∈ lw_tbl := t4_in (List.mem_of_getElem? (i := 68) rfl)
set_option maxRecDepth 20000 in
theorem tw_294 : (.instanceMethod yX7_isFull : Cond) ∈ lw_tbl := t4_in (List.mem_of_getElem? (i := 41) rfl)
set_option maxRecDepth 20000 in
theorem tw_295 : (.selects RX7 yX7_isFull yX7_isFull : Cond) ∈ lw_tbl := t4_in (List.mem_of_getElem? (i := 42) rfl)
set_option maxRecDepth 20000 in
theorem tw_296 : (.code yX7_isFull cX7_isFull 1 (some .boolean) : Cond) ∈ lw_tbl := t4_in (List.mem_of_getElem? (i := 43) rfl)
set_option maxRecDepth 20000 in
theorem tw_297 : (.methodLink RX11 529 yX11_obey : Cond) ∈ lw_tbl := t5_in (List.mem_of_getElem? (i := 191) rfl)
set_option maxRecDepth 20000 in
theorem tw_298 : (.static yX11_obey : Cond) ∈ lw_tbl := t5_in (List.mem_of_getElem? (i := 192) rfl)
set_option maxRecDepth 20000 in
theorem tw_299 : (.code yX11_obey cX11_obey 4 none : Cond) ∈ lw_tbl := t5_in (List.mem_of_getElem? (i := 193) rfl)
set_option maxRecDepth 20000 in
theorem tw_300 : (.methodLink RX11 157 yX7_newControl : Cond) ∈ lw_tbl := t4_in (List.mem_of_getElem? (i := 6) rfl)
set_option maxRecDepth 20000 in
theorem tw_301 : (.instanceMethod yX7_newControl : Cond) ∈ lw_tbl := t3_in (List.mem_of_getElem? (i := 232) rfl)
set_option maxRecDepth 20000 in
theorem tw_302 : (.selects RX7 yX7_newControl yX7_newControl : Cond) ∈ lw_tbl := t3_in (List.mem_of_getElem? (i := 233) rfl)
set_option maxRecDepth 20000 in
theorem tw_303 : (.code yX7_newControl cX7_newControl 3 (some (.object "LowEnergy$Row")) : Cond) ∈ lw_tbl := t3_in (List.mem_of_getElem? (i := 234) rfl)
set_option maxRecDepth 20000 in
theorem tw_304 : (.methodLink RX7 71 yX9_put : Cond) ∈ lw_tbl := t3_in (List.mem_of_getElem? (i := 236) rfl)
set_option maxRecDepth 20000 in
theorem tw_305 : (.fieldLink RX7 33 "LowEnergy$Mail" "spare" "LLowEnergy$Row;" : Cond) ∈ lw_tbl := t2_in (List.mem_of_getElem? (i := 2) rfl)
set_option maxRecDepth 20000 in
theorem tw_306 : (.methodLink RX11 164 yX9_put : Cond) ∈ lw_tbl := t4_in (List.mem_of_getElem? (i := 8) rfl)
set_option maxRecDepth 20000 in
theorem tw_307 : (.methodLink RX11 565 yX11_isForRole : Cond) ∈ lw_tbl := t5_in (List.mem_of_getElem? (i := 197) rfl)
set_option maxRecDepth 20000 in
theorem tw_308 : (.static yX11_isForRole : Cond) ∈ lw_tbl := t5_in (List.mem_of_getElem? (i := 198) rfl)
set_option maxRecDepth 20000 in
theorem tw_309 : (.code yX11_isForRole cX11_isForRole 2 (some .boolean) : Cond) ∈ lw_tbl := t5_in (List.mem_of_getElem? (i := 199) rfl)
set_option maxRecDepth 20000 in
theorem tw_310 : (.methodLink RX11 573 yX11_obeyCipherControl : Cond) ∈ lw_tbl := t5_in (List.mem_of_getElem? (i := 218) rfl)
set_option maxRecDepth 20000 in
theorem tw_311 : (.static yX11_obeyCipherControl : Cond) ∈ lw_tbl := t5_in (List.mem_of_getElem? (i := 219) rfl)
set_option maxRecDepth 20000 in
theorem tw_312 : (.code yX11_obeyCipherControl cX11_obeyCipherControl 4 none : Cond) ∈ lw_tbl := t5_in (List.mem_of_getElem? (i := 220) rfl)
set_option maxRecDepth 20000 in
theorem tw_313 : (.methodLink RX11 582 yX4_note : Cond) ∈ lw_tbl := t5_in (List.mem_of_getElem? (i := 211) rfl)
set_option maxRecDepth 20000 in
theorem tw_314 : (.instanceMethod yX4_note : Cond) ∈ lw_tbl := t5_in (List.mem_of_getElem? (i := 82) rfl)
set_option maxRecDepth 20000 in
theorem tw_315 : (.selects RX4 yX4_note yX4_note : Cond) ∈ lw_tbl := t5_in (List.mem_of_getElem? (i := 83) rfl)
set_option maxRecDepth 20000 in
theorem tw_316 : (.initialized RX4 : Cond) ∈ lw_tbl := t1_in (List.mem_of_getElem? (i := 11) rfl)
set_option maxRecDepth 20000 in
theorem tw_317 : (.code yX4_note cX4_note 6 none : Cond) ∈ lw_tbl := t5_in (List.mem_of_getElem? (i := 84) rfl)
set_option maxRecDepth 20000 in
theorem tw_318 : (.fieldLink RX4 29 "LowEnergy$Diary" "count" "I" : Cond) ∈ lw_tbl := t2_in (List.mem_of_getElem? (i := 125) rfl)
set_option maxRecDepth 20000 in
theorem tw_319 : (.fieldLink RX4 36 "LowEnergy$Diary" "head" "I" : Cond) ∈ lw_tbl := t2_in (List.mem_of_getElem? (i := 124) rfl)
set_option maxRecDepth 20000 in
theorem tw_320 : (.fieldLink RX4 11 "LowEnergy$Diary" "kinds" "[I" : Cond) ∈ lw_tbl := t2_in (List.mem_of_getElem? (i := 121) rfl)
set_option maxRecDepth 20000 in
theorem tw_321 : (.fieldLink RX4 17 "LowEnergy$Diary" "numbers" "[[I" : Cond) ∈ lw_tbl := t2_in (List.mem_of_getElem? (i := 122) rfl)
set_option maxRecDepth 20000 in
theorem tw_322 : (.fieldLink RX4 22 "LowEnergy$Diary" "rows" "[LLowEnergy$Row;" : Cond) ∈ lw_tbl := t2_in (List.mem_of_getElem? (i := 123) rfl)
set_option maxRecDepth 20000 in
theorem tw_323 : (.methodLink RX4 39 yX9_clear : Cond) ∈ lw_tbl := t5_in (List.mem_of_getElem? (i := 85) rfl)
set_option maxRecDepth 20000 in
theorem tw_324 : (.fieldLink RX4 33 "LowEnergy$Diary" "lost" "I" : Cond) ∈ lw_tbl := t2_in (List.mem_of_getElem? (i := 127) rfl)
set_option maxRecDepth 20000 in
theorem tw_325 : (.methodLink RX11 590 yX11_answerSessionRequest : Cond) ∈ lw_tbl := t5_in (List.mem_of_getElem? (i := 221) rfl)
set_option maxRecDepth 20000 in
theorem tw_326 : (.static yX11_answerSessionRequest : Cond) ∈ lw_tbl := t5_in (List.mem_of_getElem? (i := 222) rfl)
set_option maxRecDepth 20000 in
theorem tw_327 : (.code yX11_answerSessionRequest cX11_answerSessionRequest 2 none : Cond) ∈ lw_tbl := t5_in (List.mem_of_getElem? (i := 223) rfl)
set_option maxRecDepth 20000 in
theorem tw_328 : (.methodLink RX11 593 yX5_takeSessionParts : Cond) ∈ lw_tbl := t5_in (List.mem_of_getElem? (i := 224) rfl)
set_option maxRecDepth 20000 in
theorem tw_329 : (.instanceMethod yX5_takeSessionParts : Cond) ∈ lw_tbl := t5_in (List.mem_of_getElem? (i := 225) rfl)
set_option maxRecDepth 20000 in
theorem tw_330 : (.selects RX5 yX5_takeSessionParts yX5_takeSessionParts : Cond) ∈ lw_tbl := t5_in (List.mem_of_getElem? (i := 226) rfl)
set_option maxRecDepth 20000 in
theorem tw_331 : (.code yX5_takeSessionParts cX5_takeSessionParts 4 none : Cond) ∈ lw_tbl := t5_in (List.mem_of_getElem? (i := 227) rfl)
set_option maxRecDepth 20000 in
theorem tw_332 : (.fieldLink RX5 13 "LowEnergy$Guard" "diversifier" "[I" : Cond) ∈ lw_tbl := t2_in (List.mem_of_getElem? (i := 153) rfl)
set_option maxRecDepth 20000 in
theorem tw_333 : (.methodLink RX11 208 yX3_drawInto : Cond) ∈ lw_tbl := t4_in (List.mem_of_getElem? (i := 22) rfl)
set_option maxRecDepth 20000 in
theorem tw_334 : (.instanceMethod yX3_drawInto : Cond) ∈ lw_tbl := t4_in (List.mem_of_getElem? (i := 23) rfl)
set_option maxRecDepth 20000 in
theorem tw_335 : (.selects RX3 yX3_drawInto yX3_drawInto : Cond) ∈ lw_tbl := t4_in (List.mem_of_getElem? (i := 24) rfl)
set_option maxRecDepth 20000 in
theorem tw_336 : (.code yX3_drawInto cX3_drawInto 5 none : Cond) ∈ lw_tbl := t4_in (List.mem_of_getElem? (i := 25) rfl)
set_option maxRecDepth 20000 in
theorem tw_337 : (.methodLink RX3 89 yX3_draw : Cond) ∈ lw_tbl := t4_in (List.mem_of_getElem? (i := 26) rfl)
set_option maxRecDepth 20000 in
theorem tw_338 : (.instanceMethod yX3_draw : Cond) ∈ lw_tbl := t4_in (List.mem_of_getElem? (i := 27) rfl)
set_option maxRecDepth 20000 in
theorem tw_339 : (.selects RX3 yX3_draw yX3_draw : Cond) ∈ lw_tbl := t4_in (List.mem_of_getElem? (i := 28) rfl)
set_option maxRecDepth 20000 in
theorem tw_340 : (.code yX3_draw cX3_draw 1 (some .int) : Cond) ∈ lw_tbl := t4_in (List.mem_of_getElem? (i := 29) rfl)
set_option maxRecDepth 20000 in
theorem tw_341 : (.fieldLink RX3 69 "LowEnergy$Device" "x" "I" : Cond) ∈ lw_tbl := t3_in (List.mem_of_getElem? (i := 13) rfl)
set_option maxRecDepth 20000 in
theorem tw_342 : (.constant RX3 88 (1103515245) : Cond) ∈ lw_tbl := t4_in (List.mem_of_getElem? (i := 30) rfl)
set_option maxRecDepth 20000 in
theorem tw_343 : (.methodLink RX11 215 yX5_putSessionParts : Cond) ∈ lw_tbl := t4_in (List.mem_of_getElem? (i := 31) rfl)
set_option maxRecDepth 20000 in
theorem tw_344 : (.instanceMethod yX5_putSessionParts : Cond) ∈ lw_tbl := t4_in (List.mem_of_getElem? (i := 32) rfl)
set_option maxRecDepth 20000 in
theorem tw_345 : (.selects RX5 yX5_putSessionParts yX5_putSessionParts : Cond) ∈ lw_tbl := t4_in (List.mem_of_getElem? (i := 33) rfl)
set_option maxRecDepth 20000 in
theorem tw_346 : (.code yX5_putSessionParts cX5_putSessionParts 4 none : Cond) ∈ lw_tbl := t4_in (List.mem_of_getElem? (i := 34) rfl)
set_option maxRecDepth 20000 in
theorem tw_347 : (.methodLink RX11 596 yX5_makeSession : Cond) ∈ lw_tbl := t5_in (List.mem_of_getElem? (i := 228) rfl)
set_option maxRecDepth 20000 in
theorem tw_348 : (.instanceMethod yX5_makeSession : Cond) ∈ lw_tbl := t5_in (List.mem_of_getElem? (i := 229) rfl)
set_option maxRecDepth 20000 in
theorem tw_349 : (.selects RX5 yX5_makeSession yX5_makeSession : Cond) ∈ lw_tbl := t5_in (List.mem_of_getElem? (i := 230) rfl)
set_option maxRecDepth 20000 in
theorem tw_350 : (.code yX5_makeSession cX5_makeSession 2 none : Cond) ∈ lw_tbl := t5_in (List.mem_of_getElem? (i := 231) rfl)
set_option maxRecDepth 20000 in
theorem tw_351 : (.fieldLink RX5 7 "LowEnergy$Guard" "key" "[I" : Cond) ∈ lw_tbl := t2_in (List.mem_of_getElem? (i := 149) rfl)
set_option maxRecDepth 20000 in
theorem tw_352 : (.fieldLink RX5 32 "LowEnergy$Guard" "hasSession" "Z" : Cond) ∈ lw_tbl := t2_in (List.mem_of_getElem? (i := 159) rfl)
set_option maxRecDepth 20000 in
theorem tw_353 : (.methodLink RX11 599 yX5_beginSending : Cond) ∈ lw_tbl := t5_in (List.mem_of_getElem? (i := 232) rfl)
set_option maxRecDepth 20000 in
theorem tw_354 : (.instanceMethod yX5_beginSending : Cond) ∈ lw_tbl := t5_in (List.mem_of_getElem? (i := 233) rfl)
set_option maxRecDepth 20000 in
theorem tw_355 : (.selects RX5 yX5_beginSending yX5_beginSending : Cond) ∈ lw_tbl := t5_in (List.mem_of_getElem? (i := 234) rfl)
set_option maxRecDepth 20000 in
theorem tw_356 : (.code yX5_beginSending cX5_beginSending 1 none : Cond) ∈ lw_tbl := t5_in (List.mem_of_getElem? (i := 235) rfl)
set_option maxRecDepth 20000 in
theorem tw_357 : (.fieldLink RX5 45 "LowEnergy$Guard" "sends" "Z" : Cond) ∈ lw_tbl := t2_in (List.mem_of_getElem? (i := 168) rfl)
set_option maxRecDepth 20000 in
theorem tw_358 : (.methodLink RX11 602 yX5_beginComing : Cond) ∈ lw_tbl := t5_in (List.mem_of_getElem? (i := 236) rfl)
set_option maxRecDepth 20000 in
theorem tw_359 : (.instanceMethod yX5_beginComing : Cond) ∈ lw_tbl := t5_in (List.mem_of_getElem? (i := 183) rfl)
set_option maxRecDepth 20000 in
theorem tw_360 : (.selects RX5 yX5_beginComing yX5_beginComing : Cond) ∈ lw_tbl := t5_in (List.mem_of_getElem? (i := 184) rfl)
set_option maxRecDepth 20000 in
theorem tw_361 : (.code yX5_beginComing cX5_beginComing 1 none : Cond) ∈ lw_tbl := t5_in (List.mem_of_getElem? (i := 185) rfl)
set_option maxRecDepth 20000 in
theorem tw_362 : (.fieldLink RX5 48 "LowEnergy$Guard" "comes" "Z" : Cond) ∈ lw_tbl := t2_in (List.mem_of_getElem? (i := 170) rfl)
set_option maxRecDepth 20000 in
theorem tw_363 : (.fieldLink RX5 55 "LowEnergy$Guard" "opened" "I" : Cond) ∈ lw_tbl := t2_in (List.mem_of_getElem? (i := 174) rfl)
set_option maxRecDepth 20000 in
theorem tw_364 : (.methodLink RX11 291 yX9_at : Cond) ∈ lw_tbl := t4_in (List.mem_of_getElem? (i := 146) rfl)
set_option maxRecDepth 20000 in
theorem tw_365 : (.methodLink RX11 569 yX11_obeyLinkControl : Cond) ∈ lw_tbl := t5_in (List.mem_of_getElem? (i := 200) rfl)
set_option maxRecDepth 20000 in
theorem tw_366 : (.static yX11_obeyLinkControl : Cond) ∈ lw_tbl := t5_in (List.mem_of_getElem? (i := 201) rfl)
set_option maxRecDepth 20000 in
theorem tw_367 : (.code yX11_obeyLinkControl cX11_obeyLinkControl 3 none : Cond) ∈ lw_tbl := t5_in (List.mem_of_getElem? (i := 202) rfl)
set_option maxRecDepth 20000 in
theorem tw_368 : (.methodLink RX11 449 yX9_numberAt : Cond) ∈ lw_tbl := t5_in (List.mem_of_getElem? (i := 64) rfl)
set_option maxRecDepth 20000 in
theorem tw_369 : (.instanceMethod yX9_numberAt : Cond) ∈ lw_tbl := t5_in (List.mem_of_getElem? (i := 50) rfl)
set_option maxRecDepth 20000 in
theorem tw_370 : (.selects RX9 yX9_numberAt yX9_numberAt : Cond) ∈ lw_tbl := t5_in (List.mem_of_getElem? (i := 51) rfl)
set_option maxRecDepth 20000 in
theorem tw_371 : (.code yX9_numberAt cX9_numberAt 7 (some .long) : Cond) ∈ lw_tbl := t5_in (List.mem_of_getElem? (i := 52) rfl)
set_option maxRecDepth 20000 in
theorem tw_372 : (.methodLink RX11 576 yX9_two : Cond) ∈ lw_tbl := t5_in (List.mem_of_getElem? (i := 203) rfl)
set_option maxRecDepth 20000 in
theorem tw_373 : (.methodLink RX11 579 yX6_hearMap : Cond) ∈ lw_tbl := t5_in (List.mem_of_getElem? (i := 204) rfl)
set_option maxRecDepth 20000 in
theorem tw_374 : (.instanceMethod yX6_hearMap : Cond) ∈ lw_tbl := t5_in (List.mem_of_getElem? (i := 205) rfl)
set_option maxRecDepth 20000 in
theorem tw_375 : (.selects RX6 yX6_hearMap yX6_hearMap : Cond) ∈ lw_tbl := t5_in (List.mem_of_getElem? (i := 206) rfl)
set_option maxRecDepth 20000 in
theorem tw_376 : (.code yX6_hearMap cX6_hearMap 5 none : Cond) ∈ lw_tbl := t5_in (List.mem_of_getElem? (i := 207) rfl)
set_option maxRecDepth 20000 in
theorem tw_377 : (.methodLink RX6 76 yX6_giveReason : Cond) ∈ lw_tbl := t5_in (List.mem_of_getElem? (i := 209) rfl)
set_option maxRecDepth 20000 in
theorem tw_378 : (.fieldLink RX6 54 "LowEnergy$Link" "event" "I" : Cond) ∈ lw_tbl := t1_in (List.mem_of_getElem? (i := 150) rfl)
set_option maxRecDepth 20000 in
theorem tw_379 : (.constant RX6 75 (65535) : Cond) ∈ lw_tbl := t5_in (List.mem_of_getElem? (i := 208) rfl)
set_option maxRecDepth 20000 in
theorem tw_380 : (.fieldLink RX6 50 "LowEnergy$Link" "mapWaits" "Z" : Cond) ∈ lw_tbl := t1_in (List.mem_of_getElem? (i := 143) rfl)
set_option maxRecDepth 20000 in
theorem tw_381 : (.methodLink RX6 80 yX6_awaitMap : Cond) ∈ lw_tbl := t5_in (List.mem_of_getElem? (i := 210) rfl)
set_option maxRecDepth 20000 in
theorem tw_382 : (.instanceMethod yX6_awaitMap : Cond) ∈ lw_tbl := t4_in (List.mem_of_getElem? (i := 15) rfl)
set_option maxRecDepth 20000 in
theorem tw_383 : (.selects RX6 yX6_awaitMap yX6_awaitMap : Cond) ∈ lw_tbl := t4_in (List.mem_of_getElem? (i := 16) rfl)
set_option maxRecDepth 20000 in
theorem tw_384 : (.code yX6_awaitMap cX6_awaitMap 4 none : Cond) ∈ lw_tbl := t4_in (List.mem_of_getElem? (i := 17) rfl)
set_option maxRecDepth 20000 in
theorem tw_385 : (.fieldLink RX6 69 "LowEnergy$Link" "nextMap" "J" : Cond) ∈ lw_tbl := t1_in (List.mem_of_getElem? (i := 142) rfl)
set_option maxRecDepth 20000 in
theorem tw_386 : (.fieldLink RX6 72 "LowEnergy$Link" "instant" "I" : Cond) ∈ lw_tbl := t1_in (List.mem_of_getElem? (i := 145) rfl)
set_option maxRecDepth 20000 in
theorem tw_387 : (.methodLink RX11 160 yX9_putNumber : Cond) ∈ lw_tbl := t4_in (List.mem_of_getElem? (i := 7) rfl)
set_option maxRecDepth 20000 in
theorem tw_388 : (.methodLink RX11 586 yX4_noteBytes : Cond) ∈ lw_tbl := t5_in (List.mem_of_getElem? (i := 212) rfl)
set_option maxRecDepth 20000 in
theorem tw_389 : (.instanceMethod yX4_noteBytes : Cond) ∈ lw_tbl := t5_in (List.mem_of_getElem? (i := 213) rfl)
set_option maxRecDepth 20000 in
theorem tw_390 : (.selects RX4 yX4_noteBytes yX4_noteBytes : Cond) ∈ lw_tbl := t5_in (List.mem_of_getElem? (i := 214) rfl)
set_option maxRecDepth 20000 in
theorem tw_391 : (.code yX4_noteBytes cX4_noteBytes 8 none : Cond) ∈ lw_tbl := t5_in (List.mem_of_getElem? (i := 215) rfl)
set_option maxRecDepth 20000 in
theorem tw_392 : (.methodLink RX4 42 yX4_note : Cond) ∈ lw_tbl := t5_in (List.mem_of_getElem? (i := 216) rfl)
set_option maxRecDepth 20000 in
theorem tw_393 : (.methodLink RX4 46 yX9_putPart : Cond) ∈ lw_tbl := t5_in (List.mem_of_getElem? (i := 217) rfl)
set_option maxRecDepth 20000 in
theorem tw_394 : (.methodLink RX11 154 yX7_addVersion : Cond) ∈ lw_tbl := t3_in (List.mem_of_getElem? (i := 227) rfl)
set_option maxRecDepth 20000 in
theorem tw_395 : (.instanceMethod yX7_addVersion : Cond) ∈ lw_tbl := t3_in (List.mem_of_getElem? (i := 228) rfl)
set_option maxRecDepth 20000 in
theorem tw_396 : (.selects RX7 yX7_addVersion yX7_addVersion : Cond) ∈ lw_tbl := t3_in (List.mem_of_getElem? (i := 229) rfl)
set_option maxRecDepth 20000 in
theorem tw_397 : (.code yX7_addVersion cX7_addVersion 2 none : Cond) ∈ lw_tbl := t3_in (List.mem_of_getElem? (i := 230) rfl)
set_option maxRecDepth 20000 in
theorem tw_398 : (.methodLink RX7 74 yX7_newControl : Cond) ∈ lw_tbl := t3_in (List.mem_of_getElem? (i := 231) rfl)
set_option maxRecDepth 20000 in
theorem tw_399 : (.methodLink RX7 78 yX9_putNumber : Cond) ∈ lw_tbl := t4_in (List.mem_of_getElem? (i := 0) rfl)
set_option maxRecDepth 20000 in
theorem tw_400 : (.constantLong RX7 82 (258) : Cond) ∈ lw_tbl := t4_in (List.mem_of_getElem? (i := 5) rfl)
set_option maxRecDepth 20000 in
theorem tw_401 : (.fieldLink RX7 46 "LowEnergy$Mail" "versionSent" "Z" : Cond) ∈ lw_tbl := t1_in (List.mem_of_getElem? (i := 229) rfl)
set_option maxRecDepth 20000 in
theorem tw_402 : (.methodLink RX11 562 yX11_controlSize : Cond) ∈ lw_tbl := t5_in (List.mem_of_getElem? (i := 194) rfl)
set_option maxRecDepth 20000 in
theorem tw_403 : (.static yX11_controlSize : Cond) ∈ lw_tbl := t5_in (List.mem_of_getElem? (i := 195) rfl)
set_option maxRecDepth 20000 in
theorem tw_404 : (.code yX11_controlSize cX11_controlSize 1 (some .int) : Cond) ∈ lw_tbl := t5_in (List.mem_of_getElem? (i := 196) rfl)
set_option maxRecDepth 20000 in
theorem tw_405 : (.methodLink RX11 525 yX5_open : Cond) ∈ lw_tbl := t5_in (List.mem_of_getElem? (i := 186) rfl)
set_option maxRecDepth 20000 in
theorem tw_406 : (.instanceMethod yX5_open : Cond) ∈ lw_tbl := t5_in (List.mem_of_getElem? (i := 187) rfl)
set_option maxRecDepth 20000 in
theorem tw_407 : (.selects RX5 yX5_open yX5_open : Cond) ∈ lw_tbl := t5_in (List.mem_of_getElem? (i := 188) rfl)
set_option maxRecDepth 20000 in
theorem tw_408 : (.code yX5_open cX5_open 6 (some .boolean) : Cond) ∈ lw_tbl := t5_in (List.mem_of_getElem? (i := 189) rfl)
set_option maxRecDepth 20000 in
theorem tw_409 : (.methodLink RX5 91 yX9_cut : Cond) ∈ lw_tbl := t5_in (List.mem_of_getElem? (i := 190) rfl)
set_option maxRecDepth 20000 in
theorem tw_410 : (.methodLink RX11 457 yX0_isHeard : Cond) ∈ lw_tbl := t5_in (List.mem_of_getElem? (i := 45) rfl)
set_option maxRecDepth 20000 in
theorem tw_411 : (.instanceMethod yX0_isHeard : Cond) ∈ lw_tbl := t5_in (List.mem_of_getElem? (i := 46) rfl)
set_option maxRecDepth 20000 in
theorem tw_412 : (.selects RX0 yX0_isHeard yX0_isHeard : Cond) ∈ lw_tbl := t5_in (List.mem_of_getElem? (i := 47) rfl)
set_option maxRecDepth 20000 in
theorem tw_413 : (.code yX0_isHeard cX0_isHeard 4 (some .boolean) : Cond) ∈ lw_tbl := t5_in (List.mem_of_getElem? (i := 48) rfl)
set_option maxRecDepth 20000 in
theorem tw_414 : (.methodLink RX0 86 yX9_numberAt : Cond) ∈ lw_tbl := t5_in (List.mem_of_getElem? (i := 49) rfl)
set_option maxRecDepth 20000 in
theorem tw_415 : (.methodLink RX11 460 yX0_isGood : Cond) ∈ lw_tbl := t5_in (List.mem_of_getElem? (i := 53) rfl)
set_option maxRecDepth 20000 in
theorem tw_416 : (.instanceMethod yX0_isGood : Cond) ∈ lw_tbl := t5_in (List.mem_of_getElem? (i := 54) rfl)
set_option maxRecDepth 20000 in
theorem tw_417 : (.selects RX0 yX0_isGood yX0_isGood : Cond) ∈ lw_tbl := t5_in (List.mem_of_getElem? (i := 55) rfl)
set_option maxRecDepth 20000 in
theorem tw_418 : (.code yX0_isGood cX0_isGood 5 (some .boolean) : Cond) ∈ lw_tbl := t5_in (List.mem_of_getElem? (i := 56) rfl)
set_option maxRecDepth 20000 in
theorem tw_419 : (.fieldLink RX0 35 "LowEnergy$Air" "plain" "LLowEnergy$Row;" : Cond) ∈ lw_tbl := t1_in (List.mem_of_getElem? (i := 72) rfl)
set_option maxRecDepth 20000 in
theorem tw_420 : (.methodLink RX0 90 yX9_become : Cond) ∈ lw_tbl := t5_in (List.mem_of_getElem? (i := 57) rfl)
set_option maxRecDepth 20000 in
theorem tw_421 : (.methodLink RX0 49 yX9_at : Cond) ∈ lw_tbl := t5_in (List.mem_of_getElem? (i := 58) rfl)
set_option maxRecDepth 20000 in
theorem tw_422 : (.fieldLink RX0 94 "LowEnergy$Air" "first" "I" : Cond) ∈ lw_tbl := t1_in (List.mem_of_getElem? (i := 75) rfl)
set_option maxRecDepth 20000 in
theorem tw_423 : (.fieldLink RX0 39 "LowEnergy$Air" "payload" "LLowEnergy$Row;" : Cond) ∈ lw_tbl := t1_in (List.mem_of_getElem? (i := 73) rfl)
set_option maxRecDepth 20000 in
theorem tw_424 : (.methodLink RX11 519 yX11_isNew : Cond) ∈ lw_tbl := t5_in (List.mem_of_getElem? (i := 172) rfl)
set_option maxRecDepth 20000 in
theorem tw_425 : (.instanceMethod yX11_isNew : Cond) ∈ lw_tbl := t5_in (List.mem_of_getElem? (i := 174) rfl)
set_option maxRecDepth 20000 in
theorem tw_426 : (.selects RX11 yX11_isNew yX11_isNew : Cond) ∈ lw_tbl := sel2_in (List.mem_of_getElem? (i := 4) rfl)
set_option maxRecDepth 20000 in
theorem tw_427 : (.code yX11_isNew cX11_isNew 3 (some .boolean) : Cond) ∈ lw_tbl := t5_in (List.mem_of_getElem? (i := 175) rfl)
set_option maxRecDepth 20000 in
theorem tw_428 : (.methodLink RX11 537 yX3_currentIsAcknowledged : Cond) ∈ lw_tbl := t5_in (List.mem_of_getElem? (i := 176) rfl)
set_option maxRecDepth 20000 in
theorem tw_429 : (.instanceMethod yX3_currentIsAcknowledged : Cond) ∈ lw_tbl := t5_in (List.mem_of_getElem? (i := 177) rfl)
set_option maxRecDepth 20000 in
theorem tw_430 : (.selects RX3 yX3_currentIsAcknowledged yX3_currentIsAcknowledged : Cond) ∈ lw_tbl := t5_in (List.mem_of_getElem? (i := 178) rfl)
set_option maxRecDepth 20000 in
theorem tw_431 : (.code yX3_currentIsAcknowledged cX3_currentIsAcknowledged 2 none : Cond) ∈ lw_tbl := t5_in (List.mem_of_getElem? (i := 179) rfl)
set_option maxRecDepth 20000 in
theorem tw_432 : (.fieldLink RX3 33 "LowEnergy$Device" "mail" "LLowEnergy$Mail;" : Cond) ∈ lw_tbl := t3_in (List.mem_of_getElem? (i := 29) rfl)
set_option maxRecDepth 20000 in
theorem tw_433 : (.methodLink RX3 164 yX7_dropCurrent : Cond) ∈ lw_tbl := t5_in (List.mem_of_getElem? (i := 180) rfl)
set_option maxRecDepth 20000 in
theorem tw_434 : (.fieldLink RX3 77 "LowEnergy$Device" "guard" "LLowEnergy$Guard;" : Cond) ∈ lw_tbl := t3_in (List.mem_of_getElem? (i := 31) rfl)
set_option maxRecDepth 20000 in
theorem tw_435 : (.methodLink RX3 170 yX5_beginComing : Cond) ∈ lw_tbl := t5_in (List.mem_of_getElem? (i := 182) rfl)
set_option maxRecDepth 20000 in
theorem tw_436 : (.fieldLink RX3 26 "LowEnergy$Device" "link" "LLowEnergy$Link;" : Cond) ∈ lw_tbl := t3_in (List.mem_of_getElem? (i := 26) rfl)
set_option maxRecDepth 20000 in
theorem tw_437 : (.methodLink RX3 167 yX6_giveReason : Cond) ∈ lw_tbl := t5_in (List.mem_of_getElem? (i := 181) rfl)
set_option maxRecDepth 20000 in
theorem tw_438 : (.methodLink RX11 409 yX11_answer : Cond) ∈ lw_tbl := t6_in (List.mem_of_getElem? (i := 2) rfl)
set_option maxRecDepth 20000 in
theorem tw_439 : (.static yX11_answer : Cond) ∈ lw_tbl := t6_in (List.mem_of_getElem? (i := 3) rfl)
set_option maxRecDepth 20000 in
theorem tw_440 : (.code yX11_answer cX11_answer 4 none : Cond) ∈ lw_tbl := t6_in (List.mem_of_getElem? (i := 4) rfl)
set_option maxRecDepth 20000 in
theorem tw_441 : (.methodLink RX11 232 yX7_post : Cond) ∈ lw_tbl := t4_in (List.mem_of_getElem? (i := 64) rfl)
set_option maxRecDepth 20000 in
theorem tw_442 : (.instanceMethod yX7_post : Cond) ∈ lw_tbl := t4_in (List.mem_of_getElem? (i := 65) rfl)
set_option maxRecDepth 20000 in
theorem tw_443 : (.selects RX7 yX7_post yX7_post : Cond) ∈ lw_tbl := t4_in (List.mem_of_getElem? (i := 66) rfl)
set_option maxRecDepth 20000 in
theorem tw_444 : (.code yX7_post cX7_post 4 none : Cond) ∈ lw_tbl := t4_in (List.mem_of_getElem? (i := 67) rfl)
set_option maxRecDepth 20000 in
theorem tw_445 : (.methodLink RX11 554 yX10_hearNotice : Cond) ∈ lw_tbl := t6_in (List.mem_of_getElem? (i := 86) rfl)
set_option maxRecDepth 20000 in
theorem tw_446 : (.instanceMethod yX10_hearNotice : Cond) ∈ lw_tbl := t6_in (List.mem_of_getElem? (i := 87) rfl)
set_option maxRecDepth 20000 in
theorem tw_447 : (.selects RX10 yX10_hearNotice yX10_hearNotice : Cond) ∈ lw_tbl := t6_in (List.mem_of_getElem? (i := 88) rfl)
set_option maxRecDepth 20000 in
theorem tw_448 : (.initialized RX10 : Cond) ∈ lw_tbl := t1_in (List.mem_of_getElem? (i := 9) rfl)
set_option maxRecDepth 20000 in
theorem tw_449 : (.code yX10_hearNotice cX10_hearNotice 5 none : Cond) ∈ lw_tbl := t6_in (List.mem_of_getElem? (i := 89) rfl)
set_option maxRecDepth 20000 in
theorem tw_450 : (.methodLink RX10 76 yX9_two : Cond) ∈ lw_tbl := t6_in (List.mem_of_getElem? (i := 92) rfl)
set_option maxRecDepth 20000 in
theorem tw_451 : (.methodLink RX10 79 yX4_noteBytes : Cond) ∈ lw_tbl := t6_in (List.mem_of_getElem? (i := 93) rfl)
set_option maxRecDepth 20000 in
theorem tw_452 : (.methodLink RX10 83 yX9_put : Cond) ∈ lw_tbl := t6_in (List.mem_of_getElem? (i := 94) rfl)
set_option maxRecDepth 20000 in
theorem tw_453 : (.methodLink RX10 63 yX9_at : Cond) ∈ lw_tbl := t6_in (List.mem_of_getElem? (i := 90) rfl)
set_option maxRecDepth 20000 in
theorem tw_454 : (.fieldLink RX10 28 "LowEnergy$Server" "linkMtu" "I" : Cond) ∈ lw_tbl := t2_in (List.mem_of_getElem? (i := 52) rfl)
set_option maxRecDepth 20000 in
theorem tw_455 : (.fieldLink RX10 43 "LowEnergy$Server" "waitsForConfirmation" "Z" : Cond) ∈ lw_tbl := t2_in (List.mem_of_getElem? (i := 58) rfl)
set_option maxRecDepth 20000 in
theorem tw_456 : (.methodLink RX10 70 yX4_note : Cond) ∈ lw_tbl := t6_in (List.mem_of_getElem? (i := 91) rfl)
set_option maxRecDepth 20000 in
theorem tw_457 : (.methodLink RX11 558 yX10_serve : Cond) ∈ lw_tbl := t6_in (List.mem_of_getElem? (i := 95) rfl)
set_option maxRecDepth 20000 in
theorem tw_458 : (.instanceMethod yX10_serve : Cond) ∈ lw_tbl := t6_in (List.mem_of_getElem? (i := 96) rfl)
set_option maxRecDepth 20000 in
theorem tw_459 : (.selects RX10 yX10_serve yX10_serve : Cond) ∈ lw_tbl := t6_in (List.mem_of_getElem? (i := 97) rfl)
set_option maxRecDepth 20000 in
theorem tw_460 : (.code yX10_serve cX10_serve 5 none : Cond) ∈ lw_tbl := t6_in (List.mem_of_getElem? (i := 98) rfl)
set_option maxRecDepth 20000 in
theorem tw_461 : (.methodLink RX10 105 yX10_agreeOnMtu : Cond) ∈ lw_tbl := t6_in (List.mem_of_getElem? (i := 120) rfl)
set_option maxRecDepth 20000 in
theorem tw_462 : (.instanceMethod yX10_agreeOnMtu : Cond) ∈ lw_tbl := t6_in (List.mem_of_getElem? (i := 71) rfl)
set_option maxRecDepth 20000 in
theorem tw_463 : (.selects RX10 yX10_agreeOnMtu yX10_agreeOnMtu : Cond) ∈ lw_tbl := t6_in (List.mem_of_getElem? (i := 72) rfl)
set_option maxRecDepth 20000 in
theorem tw_464 : (.code yX10_agreeOnMtu cX10_agreeOnMtu 2 none : Cond) ∈ lw_tbl := t6_in (List.mem_of_getElem? (i := 73) rfl)
set_option maxRecDepth 20000 in
theorem tw_465 : (.fieldLink RX10 24 "LowEnergy$Server" "ownMtu" "I" : Cond) ∈ lw_tbl := t2_in (List.mem_of_getElem? (i := 49) rfl)
set_option maxRecDepth 20000 in
theorem tw_466 : (.methodLink RX10 47 Lib.Math.min.name : Cond) ∈ lw_tbl := t6_in (List.mem_of_getElem? (i := 74) rfl)
set_option maxRecDepth 20000 in
theorem tw_467 : (.static Lib.Math.min.name : Cond) ∈ lw_tbl := t4_in (List.mem_of_getElem? (i := 104) rfl)
set_option maxRecDepth 20000 in
theorem tw_468 : (.code Lib.Math.min.name Lib.Math.min.code 2 (some .int) : Cond) ∈ lw_tbl := t4_in (List.mem_of_getElem? (i := 105) rfl)
set_option maxRecDepth 20000 in
theorem tw_469 : (.methodLink RX10 53 Lib.Math.max.name : Cond) ∈ lw_tbl := t6_in (List.mem_of_getElem? (i := 75) rfl)
set_option maxRecDepth 20000 in
theorem tw_470 : (.methodLink RX10 108 yX9_putNumber : Cond) ∈ lw_tbl := t6_in (List.mem_of_getElem? (i := 116) rfl)
set_option maxRecDepth 20000 in
theorem tw_471 : (.methodLink RX10 112 yX10_answerRead : Cond) ∈ lw_tbl := t6_in (List.mem_of_getElem? (i := 121) rfl)
set_option maxRecDepth 20000 in
theorem tw_472 : (.instanceMethod yX10_answerRead : Cond) ∈ lw_tbl := t6_in (List.mem_of_getElem? (i := 123) rfl)
set_option maxRecDepth 20000 in
theorem tw_473 : (.selects RX10 yX10_answerRead yX10_answerRead : Cond) ∈ lw_tbl := sel3_in (List.mem_of_getElem? (i := 1) rfl)
set_option maxRecDepth 20000 in
theorem tw_474 : (.code yX10_answerRead cX10_answerRead 9 none : Cond) ∈ lw_tbl := t6_in (List.mem_of_getElem? (i := 124) rfl)
set_option maxRecDepth 20000 in
theorem tw_475 : (.methodLink RX10 97 yX10_refuse : Cond) ∈ lw_tbl := t6_in (List.mem_of_getElem? (i := 113) rfl)
set_option maxRecDepth 20000 in
theorem tw_476 : (.static yX10_refuse : Cond) ∈ lw_tbl := t6_in (List.mem_of_getElem? (i := 114) rfl)
set_option maxRecDepth 20000 in
theorem tw_477 : (.code yX10_refuse cX10_refuse 4 none : Cond) ∈ lw_tbl := t6_in (List.mem_of_getElem? (i := 115) rfl)
set_option maxRecDepth 20000 in
theorem tw_478 : (.methodLink RX10 133 yX9_putPart : Cond) ∈ lw_tbl := t6_in (List.mem_of_getElem? (i := 109) rfl)
set_option maxRecDepth 20000 in
theorem tw_479 : (.methodLink RX10 137 yX10_faultOfRead : Cond) ∈ lw_tbl := t6_in (List.mem_of_getElem? (i := 125) rfl)
set_option maxRecDepth 20000 in
theorem tw_480 : (.instanceMethod yX10_faultOfRead : Cond) ∈ lw_tbl := t6_in (List.mem_of_getElem? (i := 127) rfl)
set_option maxRecDepth 20000 in
theorem tw_481 : (.selects RX10 yX10_faultOfRead yX10_faultOfRead : Cond) ∈ lw_tbl := sel3_in (List.mem_of_getElem? (i := 2) rfl)
set_option maxRecDepth 20000 in
theorem tw_482 : (.code yX10_faultOfRead cX10_faultOfRead 4 (some .int) : Cond) ∈ lw_tbl := t6_in (List.mem_of_getElem? (i := 128) rfl)
set_option maxRecDepth 20000 in
theorem tw_483 : (.fieldLink RX10 56 "LowEnergy$Server" "count" "I" : Cond) ∈ lw_tbl := t2_in (List.mem_of_getElem? (i := 47) rfl)
set_option maxRecDepth 20000 in
theorem tw_484 : (.fieldLink RX10 15 "LowEnergy$Server" "rights" "[I" : Cond) ∈ lw_tbl := t2_in (List.mem_of_getElem? (i := 45) rfl)
set_option maxRecDepth 20000 in
theorem tw_485 : (.methodLink RX10 126 yX10_valueOf : Cond) ∈ lw_tbl := t6_in (List.mem_of_getElem? (i := 107) rfl)
set_option maxRecDepth 20000 in
theorem tw_486 : (.instanceMethod yX10_valueOf : Cond) ∈ lw_tbl := t3_in (List.mem_of_getElem? (i := 212) rfl)
set_option maxRecDepth 20000 in
theorem tw_487 : (.selects RX10 yX10_valueOf yX10_valueOf : Cond) ∈ lw_tbl := t3_in (List.mem_of_getElem? (i := 213) rfl)
set_option maxRecDepth 20000 in
theorem tw_488 : (.code yX10_valueOf cX10_valueOf 2 (some (.object "LowEnergy$Row")) : Cond) ∈ lw_tbl := t3_in (List.mem_of_getElem? (i := 214) rfl)
set_option maxRecDepth 20000 in
theorem tw_489 : (.fieldLink RX10 20 "LowEnergy$Server" "values" "[LLowEnergy$Row;" : Cond) ∈ lw_tbl := t2_in (List.mem_of_getElem? (i := 46) rfl)
set_option maxRecDepth 20000 in
theorem tw_490 : (.methodLink RX10 116 yX10_answerWrite : Cond) ∈ lw_tbl := t6_in (List.mem_of_getElem? (i := 129) rfl)
set_option maxRecDepth 20000 in
theorem tw_491 : (.instanceMethod yX10_answerWrite : Cond) ∈ lw_tbl := t6_in (List.mem_of_getElem? (i := 131) rfl)
set_option maxRecDepth 20000 in
theorem tw_492 : (.selects RX10 yX10_answerWrite yX10_answerWrite : Cond) ∈ lw_tbl := sel3_in (List.mem_of_getElem? (i := 3) rfl)
set_option maxRecDepth 20000 in
theorem tw_493 : (.code yX10_answerWrite cX10_answerWrite 6 none : Cond) ∈ lw_tbl := t6_in (List.mem_of_getElem? (i := 132) rfl)
set_option maxRecDepth 20000 in
theorem tw_494 : (.methodLink RX10 86 yX10_faultOfWrite : Cond) ∈ lw_tbl := t6_in (List.mem_of_getElem? (i := 99) rfl)
set_option maxRecDepth 20000 in
theorem tw_495 : (.instanceMethod yX10_faultOfWrite : Cond) ∈ lw_tbl := t6_in (List.mem_of_getElem? (i := 101) rfl)
set_option maxRecDepth 20000 in
theorem tw_496 : (.selects RX10 yX10_faultOfWrite yX10_faultOfWrite : Cond) ∈ lw_tbl := sel2_in (List.mem_of_getElem? (i := 15) rfl)
set_option maxRecDepth 20000 in
theorem tw_497 : (.code yX10_faultOfWrite cX10_faultOfWrite 5 (some .int) : Cond) ∈ lw_tbl := t6_in (List.mem_of_getElem? (i := 102) rfl)
set_option maxRecDepth 20000 in
theorem tw_498 : (.fieldLink RX10 40 "LowEnergy$Server" "partCount" "I" : Cond) ∈ lw_tbl := t2_in (List.mem_of_getElem? (i := 56) rfl)
set_option maxRecDepth 20000 in
theorem tw_499 : (.fieldLink RX10 31 "LowEnergy$Server" "parts" "[LLowEnergy$Row;" : Cond) ∈ lw_tbl := t2_in (List.mem_of_getElem? (i := 55) rfl)
set_option maxRecDepth 20000 in
theorem tw_500 : (.methodLink RX10 130 yX9_clear : Cond) ∈ lw_tbl := t6_in (List.mem_of_getElem? (i := 108) rfl)
set_option maxRecDepth 20000 in
theorem tw_501 : (.methodLink RX10 90 yX10_overwrite : Cond) ∈ lw_tbl := t6_in (List.mem_of_getElem? (i := 103) rfl)
set_option maxRecDepth 20000 in
theorem tw_502 : (.instanceMethod yX10_overwrite : Cond) ∈ lw_tbl := t6_in (List.mem_of_getElem? (i := 105) rfl)
set_option maxRecDepth 20000 in
theorem tw_503 : (.selects RX10 yX10_overwrite yX10_overwrite : Cond) ∈ lw_tbl := sel3_in (List.mem_of_getElem? (i := 0) rfl)
set_option maxRecDepth 20000 in
theorem tw_504 : (.code yX10_overwrite cX10_overwrite 3 none : Cond) ∈ lw_tbl := t6_in (List.mem_of_getElem? (i := 106) rfl)
set_option maxRecDepth 20000 in
theorem tw_505 : (.methodLink RX10 119 yX10_answerExecute : Cond) ∈ lw_tbl := t6_in (List.mem_of_getElem? (i := 133) rfl)
set_option maxRecDepth 20000 in
theorem tw_506 : (.instanceMethod yX10_answerExecute : Cond) ∈ lw_tbl := t6_in (List.mem_of_getElem? (i := 135) rfl)
set_option maxRecDepth 20000 in
theorem tw_507 : (.selects RX10 yX10_answerExecute yX10_answerExecute : Cond) ∈ lw_tbl := sel3_in (List.mem_of_getElem? (i := 4) rfl)
set_option maxRecDepth 20000 in
theorem tw_508 : (.code yX10_answerExecute cX10_answerExecute 6 none : Cond) ∈ lw_tbl := t6_in (List.mem_of_getElem? (i := 136) rfl)
set_option maxRecDepth 20000 in
theorem tw_509 : (.methodLink RX10 145 yX10_writePart : Cond) ∈ lw_tbl := t6_in (List.mem_of_getElem? (i := 141) rfl)
set_option maxRecDepth 20000 in
theorem tw_510 : (.instanceMethod yX10_writePart : Cond) ∈ lw_tbl := t6_in (List.mem_of_getElem? (i := 143) rfl)
set_option maxRecDepth 20000 in
theorem tw_511 : (.selects RX10 yX10_writePart yX10_writePart : Cond) ∈ lw_tbl := sel3_in (List.mem_of_getElem? (i := 6) rfl)
set_option maxRecDepth 20000 in
theorem tw_512 : (.code yX10_writePart cX10_writePart 5 none : Cond) ∈ lw_tbl := t6_in (List.mem_of_getElem? (i := 144) rfl)
set_option maxRecDepth 20000 in
theorem tw_513 : (.methodLink RX10 148 yX9_write : Cond) ∈ lw_tbl := t6_in (List.mem_of_getElem? (i := 145) rfl)
set_option maxRecDepth 20000 in
theorem tw_514 : (.instanceMethod yX9_write : Cond) ∈ lw_tbl := t6_in (List.mem_of_getElem? (i := 146) rfl)
set_option maxRecDepth 20000 in
theorem tw_515 : (.selects RX9 yX9_write yX9_write : Cond) ∈ lw_tbl := t6_in (List.mem_of_getElem? (i := 147) rfl)
set_option maxRecDepth 20000 in
theorem tw_516 : (.code yX9_write cX9_write 3 none : Cond) ∈ lw_tbl := t6_in (List.mem_of_getElem? (i := 148) rfl)
set_option maxRecDepth 20000 in
theorem tw_517 : (.methodLink RX9 31 yX9_put : Cond) ∈ lw_tbl := t6_in (List.mem_of_getElem? (i := 149) rfl)
set_option maxRecDepth 20000 in
theorem tw_518 : (.methodLink RX10 141 yX10_faultOfPart : Cond) ∈ lw_tbl := t6_in (List.mem_of_getElem? (i := 137) rfl)
set_option maxRecDepth 20000 in
theorem tw_519 : (.instanceMethod yX10_faultOfPart : Cond) ∈ lw_tbl := t6_in (List.mem_of_getElem? (i := 139) rfl)
set_option maxRecDepth 20000 in
theorem tw_520 : (.selects RX10 yX10_faultOfPart yX10_faultOfPart : Cond) ∈ lw_tbl := sel3_in (List.mem_of_getElem? (i := 5) rfl)
set_option maxRecDepth 20000 in
theorem tw_521 : (.code yX10_faultOfPart cX10_faultOfPart 5 (some .int) : Cond) ∈ lw_tbl := t6_in (List.mem_of_getElem? (i := 140) rfl)
set_option maxRecDepth 20000 in
theorem tw_522 : (.fieldLink RX10 34 "LowEnergy$Server" "sizes" "[I" : Cond) ∈ lw_tbl := t2_in (List.mem_of_getElem? (i := 60) rfl)
set_option maxRecDepth 20000 in
theorem tw_523 : (.methodLink RX10 123 yX10_answerSearch : Cond) ∈ lw_tbl := t6_in (List.mem_of_getElem? (i := 150) rfl)
set_option maxRecDepth 20000 in
theorem tw_524 : (.instanceMethod yX10_answerSearch : Cond) ∈ lw_tbl := t6_in (List.mem_of_getElem? (i := 152) rfl)
set_option maxRecDepth 20000 in
theorem tw_525 : (.selects RX10 yX10_answerSearch yX10_answerSearch : Cond) ∈ lw_tbl := sel3_in (List.mem_of_getElem? (i := 7) rfl)
set_option maxRecDepth 20000 in
theorem tw_526 : (.code yX10_answerSearch cX10_answerSearch 8 none : Cond) ∈ lw_tbl := t6_in (List.mem_of_getElem? (i := 153) rfl)
set_option maxRecDepth 20000 in
theorem tw_527 : (.methodLink RX10 163 yX10_listRows : Cond) ∈ lw_tbl := t6_in (List.mem_of_getElem? (i := 173) rfl)
set_option maxRecDepth 20000 in
theorem tw_528 : (.instanceMethod yX10_listRows : Cond) ∈ lw_tbl := t6_in (List.mem_of_getElem? (i := 175) rfl)
set_option maxRecDepth 20000 in
theorem tw_529 : (.selects RX10 yX10_listRows yX10_listRows : Cond) ∈ lw_tbl := sel3_in (List.mem_of_getElem? (i := 11) rfl)
set_option maxRecDepth 20000 in
theorem tw_530 : (.code yX10_listRows cX10_listRows 13 none : Cond) ∈ lw_tbl := t6_in (List.mem_of_getElem? (i := 176) rfl)
set_option maxRecDepth 20000 in
theorem tw_531 : (.methodLink RX10 170 yX10_endOf : Cond) ∈ lw_tbl := t6_in (List.mem_of_getElem? (i := 169) rfl)
set_option maxRecDepth 20000 in
theorem tw_532 : (.instanceMethod yX10_endOf : Cond) ∈ lw_tbl := t6_in (List.mem_of_getElem? (i := 171) rfl)
set_option maxRecDepth 20000 in
theorem tw_533 : (.selects RX10 yX10_endOf yX10_endOf : Cond) ∈ lw_tbl := sel3_in (List.mem_of_getElem? (i := 10) rfl)
set_option maxRecDepth 20000 in
theorem tw_534 : (.code yX10_endOf cX10_endOf 3 (some .int) : Cond) ∈ lw_tbl := t6_in (List.mem_of_getElem? (i := 172) rfl)
set_option maxRecDepth 20000 in
theorem tw_535 : (.fieldLink RX10 11 "LowEnergy$Server" "types" "[I" : Cond) ∈ lw_tbl := t2_in (List.mem_of_getElem? (i := 44) rfl)
set_option maxRecDepth 20000 in
theorem tw_536 : (.methodLink RX10 152 yX10_isGroup : Cond) ∈ lw_tbl := t6_in (List.mem_of_getElem? (i := 154) rfl)
set_option maxRecDepth 20000 in
theorem tw_537 : (.static yX10_isGroup : Cond) ∈ lw_tbl := t6_in (List.mem_of_getElem? (i := 155) rfl)
set_option maxRecDepth 20000 in
theorem tw_538 : (.code yX10_isGroup cX10_isGroup 1 (some .boolean) : Cond) ∈ lw_tbl := t6_in (List.mem_of_getElem? (i := 156) rfl)
set_option maxRecDepth 20000 in
theorem tw_539 : (.methodLink RX10 159 yX10_listEqual : Cond) ∈ lw_tbl := t6_in (List.mem_of_getElem? (i := 161) rfl)
set_option maxRecDepth 20000 in
theorem tw_540 : (.instanceMethod yX10_listEqual : Cond) ∈ lw_tbl := t6_in (List.mem_of_getElem? (i := 163) rfl)
set_option maxRecDepth 20000 in
theorem tw_541 : (.selects RX10 yX10_listEqual yX10_listEqual : Cond) ∈ lw_tbl := sel3_in (List.mem_of_getElem? (i := 9) rfl)
set_option maxRecDepth 20000 in
theorem tw_542 : (.code yX10_listEqual cX10_listEqual 7 none : Cond) ∈ lw_tbl := t6_in (List.mem_of_getElem? (i := 164) rfl)
set_option maxRecDepth 20000 in
theorem tw_543 : (.methodLink RX10 166 yX9_isTailOf : Cond) ∈ lw_tbl := t6_in (List.mem_of_getElem? (i := 165) rfl)
set_option maxRecDepth 20000 in
theorem tw_544 : (.instanceMethod yX9_isTailOf : Cond) ∈ lw_tbl := t6_in (List.mem_of_getElem? (i := 166) rfl)
set_option maxRecDepth 20000 in
theorem tw_545 : (.selects RX9 yX9_isTailOf yX9_isTailOf : Cond) ∈ lw_tbl := t6_in (List.mem_of_getElem? (i := 167) rfl)
set_option maxRecDepth 20000 in
theorem tw_546 : (.code yX9_isTailOf cX9_isTailOf 4 (some .boolean) : Cond) ∈ lw_tbl := t6_in (List.mem_of_getElem? (i := 168) rfl)
set_option maxRecDepth 20000 in
theorem tw_547 : (.methodLink RX10 155 yX10_listTypes : Cond) ∈ lw_tbl := t6_in (List.mem_of_getElem? (i := 157) rfl)
set_option maxRecDepth 20000 in
theorem tw_548 : (.instanceMethod yX10_listTypes : Cond) ∈ lw_tbl := t6_in (List.mem_of_getElem? (i := 159) rfl)
set_option maxRecDepth 20000 in
theorem tw_549 : (.selects RX10 yX10_listTypes yX10_listTypes : Cond) ∈ lw_tbl := sel3_in (List.mem_of_getElem? (i := 8) rfl)
set_option maxRecDepth 20000 in
theorem tw_550 : (.code yX10_listTypes cX10_listTypes 5 none : Cond) ∈ lw_tbl := t6_in (List.mem_of_getElem? (i := 160) rfl)
set_option maxRecDepth 20000 in
theorem tw_551 : (.methodLink RX10 93 yX10_isRequest : Cond) ∈ lw_tbl := t6_in (List.mem_of_getElem? (i := 110) rfl)
set_option maxRecDepth 20000 in
theorem tw_552 : (.static yX10_isRequest : Cond) ∈ lw_tbl := t6_in (List.mem_of_getElem? (i := 111) rfl)
set_option maxRecDepth 20000 in
theorem tw_553 : (.code yX10_isRequest cX10_isRequest 1 (some .boolean) : Cond) ∈ lw_tbl := t6_in (List.mem_of_getElem? (i := 112) rfl)
set_option maxRecDepth 20000 in
theorem tw_554 : (.methodLink RX10 101 yX10_hasItsSize : Cond) ∈ lw_tbl := t6_in (List.mem_of_getElem? (i := 117) rfl)
set_option maxRecDepth 20000 in
theorem tw_555 : (.static yX10_hasItsSize : Cond) ∈ lw_tbl := t6_in (List.mem_of_getElem? (i := 118) rfl)
set_option maxRecDepth 20000 in
theorem tw_556 : (.code yX10_hasItsSize cX10_hasItsSize 2 (some .boolean) : Cond) ∈ lw_tbl := t6_in (List.mem_of_getElem? (i := 119) rfl)
set_option maxRecDepth 20000 in
theorem tw_557 : (.methodLink RX11 550 yX2_goOn : Cond) ∈ lw_tbl := t6_in (List.mem_of_getElem? (i := 50) rfl)
set_option maxRecDepth 20000 in
theorem tw_558 : (.instanceMethod yX2_goOn : Cond) ∈ lw_tbl := t6_in (List.mem_of_getElem? (i := 51) rfl)
set_option maxRecDepth 20000 in
theorem tw_559 : (.selects RX2 yX2_goOn yX2_goOn : Cond) ∈ lw_tbl := t6_in (List.mem_of_getElem? (i := 52) rfl)
set_option maxRecDepth 20000 in
theorem tw_560 : (.initialized RX2 : Cond) ∈ lw_tbl := t1_in (List.mem_of_getElem? (i := 10) rfl)
set_option maxRecDepth 20000 in
theorem tw_561 : (.code yX2_goOn cX2_goOn 6 none : Cond) ∈ lw_tbl := t6_in (List.mem_of_getElem? (i := 53) rfl)
set_option maxRecDepth 20000 in
theorem tw_562 : (.fieldLink RX2 9 "LowEnergy$Client" "kind" "I" : Cond) ∈ lw_tbl := t2_in (List.mem_of_getElem? (i := 90) rfl)
set_option maxRecDepth 20000 in
theorem tw_563 : (.methodLink RX2 70 yX9_at : Cond) ∈ lw_tbl := t4_in (List.mem_of_getElem? (i := 106) rfl)
set_option maxRecDepth 20000 in
theorem tw_564 : (.fieldLink RX2 30 "LowEnergy$Client" "askedOp" "I" : Cond) ∈ lw_tbl := t2_in (List.mem_of_getElem? (i := 95) rfl)
set_option maxRecDepth 20000 in
theorem tw_565 : (.methodLink RX2 88 yX2_isWhole : Cond) ∈ lw_tbl := t6_in (List.mem_of_getElem? (i := 64) rfl)
set_option maxRecDepth 20000 in
theorem tw_566 : (.static yX2_isWhole : Cond) ∈ lw_tbl := t6_in (List.mem_of_getElem? (i := 65) rfl)
set_option maxRecDepth 20000 in
theorem tw_567 : (.code yX2_isWhole cX2_isWhole 2 (some .boolean) : Cond) ∈ lw_tbl := t6_in (List.mem_of_getElem? (i := 66) rfl)
set_option maxRecDepth 20000 in
theorem tw_568 : (.methodLink RX2 119 yX2_areRows : Cond) ∈ lw_tbl := t6_in (List.mem_of_getElem? (i := 67) rfl)
set_option maxRecDepth 20000 in
theorem tw_569 : (.static yX2_areRows : Cond) ∈ lw_tbl := t6_in (List.mem_of_getElem? (i := 68) rfl)
set_option maxRecDepth 20000 in
theorem tw_570 : (.code yX2_areRows cX2_areRows 2 (some .boolean) : Cond) ∈ lw_tbl := t6_in (List.mem_of_getElem? (i := 69) rfl)
set_option maxRecDepth 20000 in
theorem tw_571 : (.methodLink RX2 92 yX9_two : Cond) ∈ lw_tbl := t6_in (List.mem_of_getElem? (i := 63) rfl)
set_option maxRecDepth 20000 in
theorem tw_572 : (.methodLink RX2 95 yX10_agreeOnMtu : Cond) ∈ lw_tbl := t6_in (List.mem_of_getElem? (i := 70) rfl)
set_option maxRecDepth 20000 in
theorem tw_573 : (.methodLink RX2 98 yX2_finish : Cond) ∈ lw_tbl := t6_in (List.mem_of_getElem? (i := 58) rfl)
set_option maxRecDepth 20000 in
theorem tw_574 : (.instanceMethod yX2_finish : Cond) ∈ lw_tbl := t6_in (List.mem_of_getElem? (i := 60) rfl)
set_option maxRecDepth 20000 in
theorem tw_575 : (.selects RX2 yX2_finish yX2_finish : Cond) ∈ lw_tbl := sel2_in (List.mem_of_getElem? (i := 12) rfl)
set_option maxRecDepth 20000 in
theorem tw_576 : (.code yX2_finish cX2_finish 2 none : Cond) ∈ lw_tbl := t6_in (List.mem_of_getElem? (i := 61) rfl)
set_option maxRecDepth 20000 in
theorem tw_577 : (.methodLink RX2 110 yX4_note : Cond) ∈ lw_tbl := t6_in (List.mem_of_getElem? (i := 62) rfl)
set_option maxRecDepth 20000 in
theorem tw_578 : (.methodLink RX2 102 yX2_hearValue : Cond) ∈ lw_tbl := t6_in (List.mem_of_getElem? (i := 76) rfl)
set_option maxRecDepth 20000 in
theorem tw_579 : (.instanceMethod yX2_hearValue : Cond) ∈ lw_tbl := t6_in (List.mem_of_getElem? (i := 78) rfl)
set_option maxRecDepth 20000 in
theorem tw_580 : (.selects RX2 yX2_hearValue yX2_hearValue : Cond) ∈ lw_tbl := sel2_in (List.mem_of_getElem? (i := 13) rfl)
set_option maxRecDepth 20000 in
theorem tw_581 : (.code yX2_hearValue cX2_hearValue 5 none : Cond) ∈ lw_tbl := t6_in (List.mem_of_getElem? (i := 79) rfl)
set_option maxRecDepth 20000 in
theorem tw_582 : (.fieldLink RX2 20 "LowEnergy$Client" "bytes" "LLowEnergy$Row;" : Cond) ∈ lw_tbl := t2_in (List.mem_of_getElem? (i := 97) rfl)
set_option maxRecDepth 20000 in
theorem tw_583 : (.methodLink RX2 66 yX9_putPart : Cond) ∈ lw_tbl := t4_in (List.mem_of_getElem? (i := 102) rfl)
set_option maxRecDepth 20000 in
theorem tw_584 : (.fieldLink RX2 24 "LowEnergy$Client" "a" "I" : Cond) ∈ lw_tbl := t2_in (List.mem_of_getElem? (i := 93) rfl)
set_option maxRecDepth 20000 in
theorem tw_585 : (.methodLink RX2 123 yX4_noteBytes : Cond) ∈ lw_tbl := t6_in (List.mem_of_getElem? (i := 81) rfl)
set_option maxRecDepth 20000 in
theorem tw_586 : (.methodLink RX2 106 yX2_ask : Cond) ∈ lw_tbl := t6_in (List.mem_of_getElem? (i := 80) rfl)
set_option maxRecDepth 20000 in
theorem tw_587 : (.instanceMethod yX2_ask : Cond) ∈ lw_tbl := t4_in (List.mem_of_getElem? (i := 84) rfl)
set_option maxRecDepth 20000 in
theorem tw_588 : (.selects RX2 yX2_ask yX2_ask : Cond) ∈ lw_tbl := t4_in (List.mem_of_getElem? (i := 85) rfl)
set_option maxRecDepth 20000 in
theorem tw_589 : (.code yX2_ask cX2_ask 4 none : Cond) ∈ lw_tbl := t4_in (List.mem_of_getElem? (i := 86) rfl)
set_option maxRecDepth 20000 in
theorem tw_590 : (.methodLink RX2 40 yX9_put : Cond) ∈ lw_tbl := t4_in (List.mem_of_getElem? (i := 87) rfl)
set_option maxRecDepth 20000 in
theorem tw_591 : (.methodLink RX2 48 yX9_putNumber : Cond) ∈ lw_tbl := t4_in (List.mem_of_getElem? (i := 88) rfl)
set_option maxRecDepth 20000 in
theorem tw_592 : (.methodLink RX2 52 yX2_putRange : Cond) ∈ lw_tbl := t4_in (List.mem_of_getElem? (i := 89) rfl)
set_option maxRecDepth 20000 in
theorem tw_593 : (.instanceMethod yX2_putRange : Cond) ∈ lw_tbl := t4_in (List.mem_of_getElem? (i := 91) rfl)
set_option maxRecDepth 20000 in
theorem tw_594 : (.selects RX2 yX2_putRange yX2_putRange : Cond) ∈ lw_tbl := sel1_in (List.mem_of_getElem? (i := 3) rfl)
set_option maxRecDepth 20000 in
theorem tw_595 : (.code yX2_putRange cX2_putRange 5 none : Cond) ∈ lw_tbl := t4_in (List.mem_of_getElem? (i := 92) rfl)
set_option maxRecDepth 20000 in
theorem tw_596 : (.methodLink RX2 74 yX2_lastHandle : Cond) ∈ lw_tbl := t4_in (List.mem_of_getElem? (i := 93) rfl)
set_option maxRecDepth 20000 in
theorem tw_597 : (.instanceMethod yX2_lastHandle : Cond) ∈ lw_tbl := t4_in (List.mem_of_getElem? (i := 95) rfl)
set_option maxRecDepth 20000 in
theorem tw_598 : (.selects RX2 yX2_lastHandle yX2_lastHandle : Cond) ∈ lw_tbl := sel1_in (List.mem_of_getElem? (i := 4) rfl)
set_option maxRecDepth 20000 in
theorem tw_599 : (.code yX2_lastHandle cX2_lastHandle 1 (some .int) : Cond) ∈ lw_tbl := t4_in (List.mem_of_getElem? (i := 96) rfl)
set_option maxRecDepth 20000 in
theorem tw_600 : (.fieldLink RX2 27 "LowEnergy$Client" "b" "I" : Cond) ∈ lw_tbl := t2_in (List.mem_of_getElem? (i := 94) rfl)
set_option maxRecDepth 20000 in
theorem tw_601 : (.constant RX2 39 (65535) : Cond) ∈ lw_tbl := t4_in (List.mem_of_getElem? (i := 97) rfl)
set_option maxRecDepth 20000 in
theorem tw_602 : (.methodLink RX2 62 yX2_askToWrite : Cond) ∈ lw_tbl := t4_in (List.mem_of_getElem? (i := 98) rfl)
set_option maxRecDepth 20000 in
theorem tw_603 : (.instanceMethod yX2_askToWrite : Cond) ∈ lw_tbl := t4_in (List.mem_of_getElem? (i := 100) rfl)
set_option maxRecDepth 20000 in
theorem tw_604 : (.selects RX2 yX2_askToWrite yX2_askToWrite : Cond) ∈ lw_tbl := sel1_in (List.mem_of_getElem? (i := 5) rfl)
set_option maxRecDepth 20000 in
theorem tw_605 : (.code yX2_askToWrite cX2_askToWrite 3 none : Cond) ∈ lw_tbl := t4_in (List.mem_of_getElem? (i := 101) rfl)
set_option maxRecDepth 20000 in
theorem tw_606 : (.fieldLink RX2 33 "LowEnergy$Client" "done" "I" : Cond) ∈ lw_tbl := t2_in (List.mem_of_getElem? (i := 96) rfl)
set_option maxRecDepth 20000 in
theorem tw_607 : (.methodLink RX2 78 Lib.Math.min.name : Cond) ∈ lw_tbl := t4_in (List.mem_of_getElem? (i := 103) rfl)
set_option maxRecDepth 20000 in
theorem tw_608 : (.methodLink RX2 116 yX2_hearRows : Cond) ∈ lw_tbl := t6_in (List.mem_of_getElem? (i := 82) rfl)
set_option maxRecDepth 20000 in
theorem tw_609 : (.instanceMethod yX2_hearRows : Cond) ∈ lw_tbl := t6_in (List.mem_of_getElem? (i := 84) rfl)
set_option maxRecDepth 20000 in
theorem tw_610 : (.selects RX2 yX2_hearRows yX2_hearRows : Cond) ∈ lw_tbl := sel2_in (List.mem_of_getElem? (i := 14) rfl)
set_option maxRecDepth 20000 in
theorem tw_611 : (.code yX2_hearRows cX2_hearRows 12 none : Cond) ∈ lw_tbl := t6_in (List.mem_of_getElem? (i := 85) rfl)
set_option maxRecDepth 20000 in
theorem tw_612 : (.methodLink RX2 84 yX2_hearError : Cond) ∈ lw_tbl := t6_in (List.mem_of_getElem? (i := 54) rfl)
set_option maxRecDepth 20000 in
theorem tw_613 : (.instanceMethod yX2_hearError : Cond) ∈ lw_tbl := t6_in (List.mem_of_getElem? (i := 56) rfl)
set_option maxRecDepth 20000 in
theorem tw_614 : (.selects RX2 yX2_hearError yX2_hearError : Cond) ∈ lw_tbl := sel2_in (List.mem_of_getElem? (i := 11) rfl)
set_option maxRecDepth 20000 in
theorem tw_615 : (.code yX2_hearError cX2_hearError 4 none : Cond) ∈ lw_tbl := t6_in (List.mem_of_getElem? (i := 57) rfl)
set_option maxRecDepth 20000 in
theorem tw_616 : (.methodLink RX11 546 yX8_hear : Cond) ∈ lw_tbl := t6_in (List.mem_of_getElem? (i := 5) rfl)
set_option maxRecDepth 20000 in
theorem tw_617 : (.instanceMethod yX8_hear : Cond) ∈ lw_tbl := t6_in (List.mem_of_getElem? (i := 6) rfl)
set_option maxRecDepth 20000 in
theorem tw_618 : (.selects RX8 yX8_hear yX8_hear : Cond) ∈ lw_tbl := t6_in (List.mem_of_getElem? (i := 7) rfl)
set_option maxRecDepth 20000 in
theorem tw_619 : (.initialized RX8 : Cond) ∈ lw_tbl := t1_in (List.mem_of_getElem? (i := 13) rfl)
set_option maxRecDepth 20000 in
theorem tw_620 : (.code yX8_hear cX8_hear 5 none : Cond) ∈ lw_tbl := t6_in (List.mem_of_getElem? (i := 8) rfl)
set_option maxRecDepth 20000 in
theorem tw_621 : (.methodLink RX8 55 yX9_at : Cond) ∈ lw_tbl := t4_in (List.mem_of_getElem? (i := 56) rfl)
set_option maxRecDepth 20000 in
theorem tw_622 : (.methodLink RX8 64 yX8_hearRequest : Cond) ∈ lw_tbl := t6_in (List.mem_of_getElem? (i := 9) rfl)
set_option maxRecDepth 20000 in
theorem tw_623 : (.instanceMethod yX8_hearRequest : Cond) ∈ lw_tbl := t6_in (List.mem_of_getElem? (i := 11) rfl)
set_option maxRecDepth 20000 in
theorem tw_624 : (.selects RX8 yX8_hearRequest yX8_hearRequest : Cond) ∈ lw_tbl := sel2_in (List.mem_of_getElem? (i := 5) rfl)
set_option maxRecDepth 20000 in
theorem tw_625 : (.code yX8_hearRequest cX8_hearRequest 4 none : Cond) ∈ lw_tbl := t6_in (List.mem_of_getElem? (i := 12) rfl)
set_option maxRecDepth 20000 in
theorem tw_626 : (.fieldLink RX8 9 "LowEnergy$Pairing" "passkey" "I" : Cond) ∈ lw_tbl := t2_in (List.mem_of_getElem? (i := 218) rfl)
set_option maxRecDepth 20000 in
theorem tw_627 : (.methodLink RX8 39 yX8_keepOffer : Cond) ∈ lw_tbl := t4_in (List.mem_of_getElem? (i := 52) rfl)
set_option maxRecDepth 20000 in
theorem tw_628 : (.instanceMethod yX8_keepOffer : Cond) ∈ lw_tbl := t4_in (List.mem_of_getElem? (i := 54) rfl)
set_option maxRecDepth 20000 in
theorem tw_629 : (.selects RX8 yX8_keepOffer yX8_keepOffer : Cond) ∈ lw_tbl := sel1_in (List.mem_of_getElem? (i := 1) rfl)
set_option maxRecDepth 20000 in
theorem tw_630 : (.code yX8_keepOffer cX8_keepOffer 4 none : Cond) ∈ lw_tbl := t4_in (List.mem_of_getElem? (i := 55) rfl)
set_option maxRecDepth 20000 in
theorem tw_631 : (.fieldLink RX8 19 "LowEnergy$Pairing" "bothMessages" "[I" : Cond) ∈ lw_tbl := t2_in (List.mem_of_getElem? (i := 224) rfl)
set_option maxRecDepth 20000 in
theorem tw_632 : (.methodLink RX8 43 yX8_useKey : Cond) ∈ lw_tbl := t4_in (List.mem_of_getElem? (i := 60) rfl)
set_option maxRecDepth 20000 in
theorem tw_633 : (.instanceMethod yX8_useKey : Cond) ∈ lw_tbl := t4_in (List.mem_of_getElem? (i := 62) rfl)
set_option maxRecDepth 20000 in
theorem tw_634 : (.selects RX8 yX8_useKey yX8_useKey : Cond) ∈ lw_tbl := sel1_in (List.mem_of_getElem? (i := 2) rfl)
set_option maxRecDepth 20000 in
theorem tw_635 : (.code yX8_useKey cX8_useKey 3 none : Cond) ∈ lw_tbl := t4_in (List.mem_of_getElem? (i := 63) rfl)
set_option maxRecDepth 20000 in
theorem tw_636 : (.fieldLink RX8 15 "LowEnergy$Pairing" "temporaryKey" "[I" : Cond) ∈ lw_tbl := t2_in (List.mem_of_getElem? (i := 223) rfl)
set_option maxRecDepth 20000 in
theorem tw_637 : (.methodLink RX8 35 yX8_putOffer : Cond) ∈ lw_tbl := t4_in (List.mem_of_getElem? (i := 48) rfl)
set_option maxRecDepth 20000 in
theorem tw_638 : (.static yX8_putOffer : Cond) ∈ lw_tbl := t4_in (List.mem_of_getElem? (i := 49) rfl)
set_option maxRecDepth 20000 in
theorem tw_639 : (.code yX8_putOffer cX8_putOffer 2 none : Cond) ∈ lw_tbl := t4_in (List.mem_of_getElem? (i := 50) rfl)
set_option maxRecDepth 20000 in
theorem tw_640 : (.methodLink RX8 96 yX9_put : Cond) ∈ lw_tbl := t4_in (List.mem_of_getElem? (i := 51) rfl)
set_option maxRecDepth 20000 in
theorem tw_641 : (.fieldLink RX8 47 "LowEnergy$Pairing" "step" "I" : Cond) ∈ lw_tbl := t2_in (List.mem_of_getElem? (i := 220) rfl)
set_option maxRecDepth 20000 in
theorem tw_642 : (.methodLink RX8 88 yX8_fail : Cond) ∈ lw_tbl := t6_in (List.mem_of_getElem? (i := 13) rfl)
set_option maxRecDepth 20000 in
theorem tw_643 : (.instanceMethod yX8_fail : Cond) ∈ lw_tbl := t6_in (List.mem_of_getElem? (i := 15) rfl)
set_option maxRecDepth 20000 in
theorem tw_644 : (.selects RX8 yX8_fail yX8_fail : Cond) ∈ lw_tbl := sel2_in (List.mem_of_getElem? (i := 6) rfl)
set_option maxRecDepth 20000 in
theorem tw_645 : (.code yX8_fail cX8_fail 4 none : Cond) ∈ lw_tbl := t6_in (List.mem_of_getElem? (i := 16) rfl)
set_option maxRecDepth 20000 in
theorem tw_646 : (.methodLink RX8 82 yX4_note : Cond) ∈ lw_tbl := t6_in (List.mem_of_getElem? (i := 17) rfl)
set_option maxRecDepth 20000 in
theorem tw_647 : (.methodLink RX8 68 yX8_drawAndConfirm : Cond) ∈ lw_tbl := t6_in (List.mem_of_getElem? (i := 18) rfl)
set_option maxRecDepth 20000 in
theorem tw_648 : (.instanceMethod yX8_drawAndConfirm : Cond) ∈ lw_tbl := t6_in (List.mem_of_getElem? (i := 20) rfl)
set_option maxRecDepth 20000 in
theorem tw_649 : (.selects RX8 yX8_drawAndConfirm yX8_drawAndConfirm : Cond) ∈ lw_tbl := sel2_in (List.mem_of_getElem? (i := 7) rfl)
set_option maxRecDepth 20000 in
theorem tw_650 : (.code yX8_drawAndConfirm cX8_drawAndConfirm 4 none : Cond) ∈ lw_tbl := t6_in (List.mem_of_getElem? (i := 21) rfl)
set_option maxRecDepth 20000 in
theorem tw_651 : (.methodLink RX8 103 yX8_confirm : Cond) ∈ lw_tbl := t6_in (List.mem_of_getElem? (i := 23) rfl)
set_option maxRecDepth 20000 in
theorem tw_652 : (.instanceMethod yX8_confirm : Cond) ∈ lw_tbl := t6_in (List.mem_of_getElem? (i := 25) rfl)
set_option maxRecDepth 20000 in
theorem tw_653 : (.selects RX8 yX8_confirm yX8_confirm : Cond) ∈ lw_tbl := sel2_in (List.mem_of_getElem? (i := 8) rfl)
set_option maxRecDepth 20000 in
theorem tw_654 : (.code yX8_confirm cX8_confirm 8 none : Cond) ∈ lw_tbl := t6_in (List.mem_of_getElem? (i := 26) rfl)
set_option maxRecDepth 20000 in
theorem tw_655 : (.fieldLink RX8 31 "LowEnergy$Pairing" "cipher" "LLowEnergy$Cipher;" : Cond) ∈ lw_tbl := t2_in (List.mem_of_getElem? (i := 217) rfl)
set_option maxRecDepth 20000 in
theorem tw_656 : (.fieldLink RX8 28 "LowEnergy$Pairing" "made" "[I" : Cond) ∈ lw_tbl := t2_in (List.mem_of_getElem? (i := 227) rfl)
set_option maxRecDepth 20000 in
theorem tw_657 : (.methodLink RX8 107 yX1_encipher : Cond) ∈ lw_tbl := t6_in (List.mem_of_getElem? (i := 28) rfl)
set_option maxRecDepth 20000 in
theorem tw_658 : (.constantLong RX8 141 (255) : Cond) ∈ lw_tbl := t6_in (List.mem_of_getElem? (i := 29) rfl)
set_option maxRecDepth 20000 in
theorem tw_659 : (.methodLink RX8 138 yX1_loadKey : Cond) ∈ lw_tbl := t6_in (List.mem_of_getElem? (i := 27) rfl)
set_option maxRecDepth 20000 in
theorem tw_660 : (.methodLink RX8 99 yX9_putBytes : Cond) ∈ lw_tbl := t6_in (List.mem_of_getElem? (i := 30) rfl)
set_option maxRecDepth 20000 in
theorem tw_661 : (.instanceMethod yX9_putBytes : Cond) ∈ lw_tbl := t6_in (List.mem_of_getElem? (i := 31) rfl)
set_option maxRecDepth 20000 in
theorem tw_662 : (.selects RX9 yX9_putBytes yX9_putBytes : Cond) ∈ lw_tbl := t6_in (List.mem_of_getElem? (i := 32) rfl)
set_option maxRecDepth 20000 in
theorem tw_663 : (.code yX9_putBytes cX9_putBytes 3 none : Cond) ∈ lw_tbl := t6_in (List.mem_of_getElem? (i := 33) rfl)
set_option maxRecDepth 20000 in
theorem tw_664 : (.fieldLink RX8 22 "LowEnergy$Pairing" "random" "[I" : Cond) ∈ lw_tbl := t2_in (List.mem_of_getElem? (i := 225) rfl)
set_option maxRecDepth 20000 in
theorem tw_665 : (.methodLink RX8 121 yX3_drawInto : Cond) ∈ lw_tbl := t6_in (List.mem_of_getElem? (i := 22) rfl)
set_option maxRecDepth 20000 in
theorem tw_666 : (.methodLink RX8 72 yX8_hearConfirm : Cond) ∈ lw_tbl := t6_in (List.mem_of_getElem? (i := 34) rfl)
set_option maxRecDepth 20000 in
theorem tw_667 : (.instanceMethod yX8_hearConfirm : Cond) ∈ lw_tbl := t6_in (List.mem_of_getElem? (i := 36) rfl)
set_option maxRecDepth 20000 in
theorem tw_668 : (.selects RX8 yX8_hearConfirm yX8_hearConfirm : Cond) ∈ lw_tbl := sel2_in (List.mem_of_getElem? (i := 9) rfl)
set_option maxRecDepth 20000 in
theorem tw_669 : (.code yX8_hearConfirm cX8_hearConfirm 4 none : Cond) ∈ lw_tbl := t6_in (List.mem_of_getElem? (i := 37) rfl)
set_option maxRecDepth 20000 in
theorem tw_670 : (.fieldLink RX8 25 "LowEnergy$Pairing" "kept" "[I" : Cond) ∈ lw_tbl := t2_in (List.mem_of_getElem? (i := 226) rfl)
set_option maxRecDepth 20000 in
theorem tw_671 : (.methodLink RX8 92 yX9_copyTo : Cond) ∈ lw_tbl := t6_in (List.mem_of_getElem? (i := 38) rfl)
set_option maxRecDepth 20000 in
theorem tw_672 : (.instanceMethod yX9_copyTo : Cond) ∈ lw_tbl := t6_in (List.mem_of_getElem? (i := 39) rfl)
set_option maxRecDepth 20000 in
theorem tw_673 : (.selects RX9 yX9_copyTo yX9_copyTo : Cond) ∈ lw_tbl := t6_in (List.mem_of_getElem? (i := 40) rfl)
set_option maxRecDepth 20000 in
theorem tw_674 : (.code yX9_copyTo cX9_copyTo 5 none : Cond) ∈ lw_tbl := t6_in (List.mem_of_getElem? (i := 41) rfl)
set_option maxRecDepth 20000 in
theorem tw_675 : (.methodLink RX8 75 yX8_hearRandom : Cond) ∈ lw_tbl := t6_in (List.mem_of_getElem? (i := 42) rfl)
set_option maxRecDepth 20000 in
theorem tw_676 : (.instanceMethod yX8_hearRandom : Cond) ∈ lw_tbl := t6_in (List.mem_of_getElem? (i := 44) rfl)
set_option maxRecDepth 20000 in
theorem tw_677 : (.selects RX8 yX8_hearRandom yX8_hearRandom : Cond) ∈ lw_tbl := sel2_in (List.mem_of_getElem? (i := 10) rfl)
set_option maxRecDepth 20000 in
theorem tw_678 : (.code yX8_hearRandom cX8_hearRandom 7 none : Cond) ∈ lw_tbl := t6_in (List.mem_of_getElem? (i := 45) rfl)
set_option maxRecDepth 20000 in
theorem tw_679 : (.methodLink RX8 116 yX5_keepKey : Cond) ∈ lw_tbl := t6_in (List.mem_of_getElem? (i := 46) rfl)
set_option maxRecDepth 20000 in
theorem tw_680 : (.instanceMethod yX5_keepKey : Cond) ∈ lw_tbl := t6_in (List.mem_of_getElem? (i := 47) rfl)
set_option maxRecDepth 20000 in
theorem tw_681 : (.selects RX5 yX5_keepKey yX5_keepKey : Cond) ∈ lw_tbl := t6_in (List.mem_of_getElem? (i := 48) rfl)
set_option maxRecDepth 20000 in
theorem tw_682 : (.code yX5_keepKey cX5_keepKey 3 none : Cond) ∈ lw_tbl := t6_in (List.mem_of_getElem? (i := 49) rfl)
set_option maxRecDepth 20000 in
theorem tw_683 : (.fieldLink RX5 58 "LowEnergy$Guard" "hasKey" "Z" : Cond) ∈ lw_tbl := t2_in (List.mem_of_getElem? (i := 151) rfl)
set_option maxRecDepth 20000 in
theorem tw_684 : (.methodLink RX11 416 yX11_endEvents : Cond) ∈ lw_tbl := t6_in (List.mem_of_getElem? (i := 177) rfl)
set_option maxRecDepth 20000 in
theorem tw_685 : (.instanceMethod yX11_endEvents : Cond) ∈ lw_tbl := t6_in (List.mem_of_getElem? (i := 179) rfl)
set_option maxRecDepth 20000 in
theorem tw_686 : (.selects RX11 yX11_endEvents yX11_endEvents : Cond) ∈ lw_tbl := sel3_in (List.mem_of_getElem? (i := 12) rfl)
set_option maxRecDepth 20000 in
theorem tw_687 : (.code yX11_endEvents cX11_endEvents 2 none : Cond) ∈ lw_tbl := t6_in (List.mem_of_getElem? (i := 180) rfl)
set_option maxRecDepth 20000 in
theorem tw_688 : (.methodLink RX11 483 yX3_hasEventAt : Cond) ∈ lw_tbl := t5_in (List.mem_of_getElem? (i := 101) rfl)
set_option maxRecDepth 20000 in
theorem tw_689 : (.instanceMethod yX3_hasEventAt : Cond) ∈ lw_tbl := t5_in (List.mem_of_getElem? (i := 102) rfl)
set_option maxRecDepth 20000 in
theorem tw_690 : (.selects RX3 yX3_hasEventAt yX3_hasEventAt : Cond) ∈ lw_tbl := t5_in (List.mem_of_getElem? (i := 103) rfl)
set_option maxRecDepth 20000 in
theorem tw_691 : (.code yX3_hasEventAt cX3_hasEventAt 2 (some .boolean) : Cond) ∈ lw_tbl := t5_in (List.mem_of_getElem? (i := 104) rfl)
set_option maxRecDepth 20000 in
theorem tw_692 : (.methodLink RX3 96 yX3_inLink : Cond) ∈ lw_tbl := t5_in (List.mem_of_getElem? (i := 105) rfl)
set_option maxRecDepth 20000 in
theorem tw_693 : (.methodLink RX11 490 yX6_pass : Cond) ∈ lw_tbl := t6_in (List.mem_of_getElem? (i := 181) rfl)
set_option maxRecDepth 20000 in
theorem tw_694 : (.instanceMethod yX6_pass : Cond) ∈ lw_tbl := t6_in (List.mem_of_getElem? (i := 182) rfl)
set_option maxRecDepth 20000 in
theorem tw_695 : (.selects RX6 yX6_pass yX6_pass : Cond) ∈ lw_tbl := t6_in (List.mem_of_getElem? (i := 183) rfl)
set_option maxRecDepth 20000 in
theorem tw_696 : (.code yX6_pass cX6_pass 1 none : Cond) ∈ lw_tbl := t6_in (List.mem_of_getElem? (i := 184) rfl)
set_option maxRecDepth 20000 in
theorem tw_697 : (.fieldLink RX6 44 "LowEnergy$Link" "anchor" "I" : Cond) ∈ lw_tbl := t1_in (List.mem_of_getElem? (i := 147) rfl)
set_option maxRecDepth 20000 in
theorem tw_698 : (.methodLink RX11 419 yX11_endLinks : Cond) ∈ lw_tbl := t6_in (List.mem_of_getElem? (i := 185) rfl)
set_option maxRecDepth 20000 in
theorem tw_699 : (.instanceMethod yX11_endLinks : Cond) ∈ lw_tbl := t6_in (List.mem_of_getElem? (i := 187) rfl)
set_option maxRecDepth 20000 in
theorem tw_700 : (.selects RX11 yX11_endLinks yX11_endLinks : Cond) ∈ lw_tbl := sel3_in (List.mem_of_getElem? (i := 13) rfl)
set_option maxRecDepth 20000 in
theorem tw_701 : (.code yX11_endLinks cX11_endLinks 4 none : Cond) ∈ lw_tbl := t6_in (List.mem_of_getElem? (i := 188) rfl)
set_option maxRecDepth 20000 in
theorem tw_702 : (.methodLink RX11 496 yX3_disconnect : Cond) ∈ lw_tbl := t6_in (List.mem_of_getElem? (i := 193) rfl)
set_option maxRecDepth 20000 in
theorem tw_703 : (.instanceMethod yX3_disconnect : Cond) ∈ lw_tbl := t6_in (List.mem_of_getElem? (i := 194) rfl)
set_option maxRecDepth 20000 in
theorem tw_704 : (.selects RX3 yX3_disconnect yX3_disconnect : Cond) ∈ lw_tbl := t6_in (List.mem_of_getElem? (i := 195) rfl)
set_option maxRecDepth 20000 in
theorem tw_705 : (.code yX3_disconnect cX3_disconnect 2 none : Cond) ∈ lw_tbl := t6_in (List.mem_of_getElem? (i := 196) rfl)
set_option maxRecDepth 20000 in
theorem tw_706 : (.methodLink RX3 184 yX6_reset : Cond) ∈ lw_tbl := t6_in (List.mem_of_getElem? (i := 197) rfl)
set_option maxRecDepth 20000 in
theorem tw_707 : (.instanceMethod yX6_reset : Cond) ∈ lw_tbl := t6_in (List.mem_of_getElem? (i := 198) rfl)
set_option maxRecDepth 20000 in
theorem tw_708 : (.selects RX6 yX6_reset yX6_reset : Cond) ∈ lw_tbl := t6_in (List.mem_of_getElem? (i := 199) rfl)
set_option maxRecDepth 20000 in
theorem tw_709 : (.code yX6_reset cX6_reset 1 none : Cond) ∈ lw_tbl := t6_in (List.mem_of_getElem? (i := 200) rfl)
set_option maxRecDepth 20000 in
theorem tw_710 : (.fieldLink RX6 57 "LowEnergy$Link" "u" "I" : Cond) ∈ lw_tbl := t1_in (List.mem_of_getElem? (i := 152) rfl)
set_option maxRecDepth 20000 in
theorem tw_711 : (.fieldLink RX6 9 "LowEnergy$Link" "channel" "I" : Cond) ∈ lw_tbl := t1_in (List.mem_of_getElem? (i := 153) rfl)
set_option maxRecDepth 20000 in
theorem tw_712 : (.fieldLink RX6 60 "LowEnergy$Link" "heardGood" "Z" : Cond) ∈ lw_tbl := t1_in (List.mem_of_getElem? (i := 157) rfl)
set_option maxRecDepth 20000 in
theorem tw_713 : (.fieldLink RX6 63 "LowEnergy$Link" "sn" "I" : Cond) ∈ lw_tbl := t1_in (List.mem_of_getElem? (i := 159) rfl)
set_option maxRecDepth 20000 in
theorem tw_714 : (.fieldLink RX6 66 "LowEnergy$Link" "nesn" "I" : Cond) ∈ lw_tbl := t1_in (List.mem_of_getElem? (i := 161) rfl)
set_option maxRecDepth 20000 in
theorem tw_715 : (.fieldLink RX6 18 "LowEnergy$Link" "laterReason" "I" : Cond) ∈ lw_tbl := t1_in (List.mem_of_getElem? (i := 164) rfl)
set_option maxRecDepth 20000 in
theorem tw_716 : (.methodLink RX3 187 yX7_reset : Cond) ∈ lw_tbl := t6_in (List.mem_of_getElem? (i := 201) rfl)
set_option maxRecDepth 20000 in
theorem tw_717 : (.instanceMethod yX7_reset : Cond) ∈ lw_tbl := t6_in (List.mem_of_getElem? (i := 202) rfl)
set_option maxRecDepth 20000 in
theorem tw_718 : (.selects RX7 yX7_reset yX7_reset : Cond) ∈ lw_tbl := t6_in (List.mem_of_getElem? (i := 203) rfl)
set_option maxRecDepth 20000 in
theorem tw_719 : (.code yX7_reset cX7_reset 1 none : Cond) ∈ lw_tbl := t6_in (List.mem_of_getElem? (i := 204) rfl)
set_option maxRecDepth 20000 in
theorem tw_720 : (.methodLink RX3 188 yX5_reset : Cond) ∈ lw_tbl := t6_in (List.mem_of_getElem? (i := 205) rfl)
set_option maxRecDepth 20000 in
theorem tw_721 : (.instanceMethod yX5_reset : Cond) ∈ lw_tbl := t6_in (List.mem_of_getElem? (i := 206) rfl)
set_option maxRecDepth 20000 in
theorem tw_722 : (.selects RX5 yX5_reset yX5_reset : Cond) ∈ lw_tbl := t6_in (List.mem_of_getElem? (i := 207) rfl)
set_option maxRecDepth 20000 in
theorem tw_723 : (.code yX5_reset cX5_reset 1 none : Cond) ∈ lw_tbl := t6_in (List.mem_of_getElem? (i := 208) rfl)
set_option maxRecDepth 20000 in
theorem tw_724 : (.fieldLink RX5 36 "LowEnergy$Guard" "asked" "Z" : Cond) ∈ lw_tbl := t2_in (List.mem_of_getElem? (i := 161) rfl)
set_option maxRecDepth 20000 in
theorem tw_725 : (.fieldLink RX5 39 "LowEnergy$Guard" "held" "Z" : Cond) ∈ lw_tbl := t2_in (List.mem_of_getElem? (i := 163) rfl)
set_option maxRecDepth 20000 in
theorem tw_726 : (.fieldLink RX5 42 "LowEnergy$Guard" "secure" "Z" : Cond) ∈ lw_tbl := t2_in (List.mem_of_getElem? (i := 166) rfl)
set_option maxRecDepth 20000 in
theorem tw_727 : (.fieldLink RX3 84 "LowEnergy$Device" "pairing" "LLowEnergy$Pairing;" : Cond) ∈ lw_tbl := t3_in (List.mem_of_getElem? (i := 34) rfl)
set_option maxRecDepth 20000 in
theorem tw_728 : (.fieldLink RX3 40 "LowEnergy$Device" "server" "LLowEnergy$Server;" : Cond) ∈ lw_tbl := t3_in (List.mem_of_getElem? (i := 36) rfl)
set_option maxRecDepth 20000 in
theorem tw_729 : (.methodLink RX3 192 yX10_leaveLink : Cond) ∈ lw_tbl := t6_in (List.mem_of_getElem? (i := 209) rfl)
set_option maxRecDepth 20000 in
theorem tw_730 : (.instanceMethod yX10_leaveLink : Cond) ∈ lw_tbl := t6_in (List.mem_of_getElem? (i := 210) rfl)
set_option maxRecDepth 20000 in
theorem tw_731 : (.selects RX10 yX10_leaveLink yX10_leaveLink : Cond) ∈ lw_tbl := t6_in (List.mem_of_getElem? (i := 211) rfl)
set_option maxRecDepth 20000 in
theorem tw_732 : (.code yX10_leaveLink cX10_leaveLink 1 none : Cond) ∈ lw_tbl := t6_in (List.mem_of_getElem? (i := 212) rfl)
set_option maxRecDepth 20000 in
theorem tw_733 : (.fieldLink RX3 47 "LowEnergy$Device" "client" "LLowEnergy$Client;" : Cond) ∈ lw_tbl := t3_in (List.mem_of_getElem? (i := 38) rfl)
set_option maxRecDepth 20000 in
theorem tw_734 : (.fieldLink RX3 54 "LowEnergy$Device" "diary" "LLowEnergy$Diary;" : Cond) ∈ lw_tbl := t3_in (List.mem_of_getElem? (i := 40) rfl)
set_option maxRecDepth 20000 in
theorem tw_735 : (.methodLink RX3 157 yX4_note : Cond) ∈ lw_tbl := t5_in (List.mem_of_getElem? (i := 81) rfl)
set_option maxRecDepth 20000 in
theorem tw_736 : (.methodLink RX11 493 yX6_reasonToEnd : Cond) ∈ lw_tbl := t6_in (List.mem_of_getElem? (i := 189) rfl)
set_option maxRecDepth 20000 in
theorem tw_737 : (.instanceMethod yX6_reasonToEnd : Cond) ∈ lw_tbl := t6_in (List.mem_of_getElem? (i := 190) rfl)
set_option maxRecDepth 20000 in
theorem tw_738 : (.selects RX6 yX6_reasonToEnd yX6_reasonToEnd : Cond) ∈ lw_tbl := t6_in (List.mem_of_getElem? (i := 191) rfl)
set_option maxRecDepth 20000 in
theorem tw_739 : (.code yX6_reasonToEnd cX6_reasonToEnd 3 (some .int) : Cond) ∈ lw_tbl := t6_in (List.mem_of_getElem? (i := 192) rfl)
set_option maxRecDepth 20000 in
theorem tw_740 : (.fieldLink RX6 47 "LowEnergy$Link" "heardAt" "I" : Cond) ∈ lw_tbl := t1_in (List.mem_of_getElem? (i := 155) rfl)
set_option maxRecDepth 20000 in
theorem tw_741 : (.methodLink RX11 401 yX11_reaches : Cond) ∈ lw_tbl := t5_in (List.mem_of_getElem? (i := 113) rfl)
set_option maxRecDepth 20000 in
theorem tw_742 : (.instanceMethod yX11_reaches : Cond) ∈ lw_tbl := t5_in (List.mem_of_getElem? (i := 115) rfl)
set_option maxRecDepth 20000 in
theorem tw_743 : (.selects RX11 yX11_reaches yX11_reaches : Cond) ∈ lw_tbl := sel1_in (List.mem_of_getElem? (i := 13) rfl)
set_option maxRecDepth 20000 in
theorem tw_744 : (.code yX11_reaches cX11_reaches 3 (some .boolean) : Cond) ∈ lw_tbl := t5_in (List.mem_of_getElem? (i := 116) rfl)
set_option maxRecDepth 20000 in
theorem tw_745 : (.methodLink RX11 393 yX0_clear : Cond) ∈ lw_tbl := t5_in (List.mem_of_getElem? (i := 6) rfl)
set_option maxRecDepth 20000 in
theorem tw_746 : (.instanceMethod yX0_clear : Cond) ∈ lw_tbl := t5_in (List.mem_of_getElem? (i := 7) rfl)
set_option maxRecDepth 20000 in
theorem tw_747 : (.selects RX0 yX0_clear yX0_clear : Cond) ∈ lw_tbl := t5_in (List.mem_of_getElem? (i := 8) rfl)
set_option maxRecDepth 20000 in
theorem tw_748 : (.code yX0_clear cX0_clear 1 none : Cond) ∈ lw_tbl := t5_in (List.mem_of_getElem? (i := 9) rfl)
set_option maxRecDepth 20000 in
theorem tw_749 : (.methodLink RX11 394 yX11_spread : Cond) ∈ lw_tbl := t5_in (List.mem_of_getElem? (i := 10) rfl)
set_option maxRecDepth 20000 in
theorem tw_750 : (.instanceMethod yX11_spread : Cond) ∈ lw_tbl := t5_in (List.mem_of_getElem? (i := 12) rfl)
set_option maxRecDepth 20000 in
theorem tw_751 : (.selects RX11 yX11_spread yX11_spread : Cond) ∈ lw_tbl := sel1_in (List.mem_of_getElem? (i := 8) rfl)
set_option maxRecDepth 20000 in
theorem tw_752 : (.code yX11_spread cX11_spread 4 none : Cond) ∈ lw_tbl := t5_in (List.mem_of_getElem? (i := 13) rfl)
set_option maxRecDepth 20000 in
theorem tw_753 : (.fieldLink RX11 31 "LowEnergy" "outgoing" "LLowEnergy$Row;" : Cond) ∈ lw_tbl := t3_in (List.mem_of_getElem? (i := 87) rfl)
set_option maxRecDepth 20000 in
theorem tw_754 : (.methodLink RX11 426 yX9_putPart : Cond) ∈ lw_tbl := t5_in (List.mem_of_getElem? (i := 15) rfl)
set_option maxRecDepth 20000 in
theorem tw_755 : (.constant RX11 433 (-1903575338) : Cond) ∈ lw_tbl := t5_in (List.mem_of_getElem? (i := 16) rfl)
set_option maxRecDepth 20000 in
theorem tw_756 : (.constant RX11 434 (5592405) : Cond) ∈ lw_tbl := t5_in (List.mem_of_getElem? (i := 17) rfl)
set_option maxRecDepth 20000 in
theorem tw_757 : (.methodLink RX11 439 yX11_advertisementArrives : Cond) ∈ lw_tbl := t5_in (List.mem_of_getElem? (i := 41) rfl)
set_option maxRecDepth 20000 in
theorem tw_758 : (.instanceMethod yX11_advertisementArrives : Cond) ∈ lw_tbl := t5_in (List.mem_of_getElem? (i := 43) rfl)
set_option maxRecDepth 20000 in
theorem tw_759 : (.selects RX11 yX11_advertisementArrives yX11_advertisementArrives : Cond) ∈ lw_tbl := sel1_in (List.mem_of_getElem? (i := 10) rfl)
set_option maxRecDepth 20000 in
theorem tw_760 : (.code yX11_advertisementArrives cX11_advertisementArrives 3 (some .boolean) : Cond) ∈ lw_tbl := t5_in (List.mem_of_getElem? (i := 44) rfl)
set_option maxRecDepth 20000 in
theorem tw_761 : (.methodLink RX11 453 yX11_initiate : Cond) ∈ lw_tbl := t5_in (List.mem_of_getElem? (i := 65) rfl)
set_option maxRecDepth 20000 in
theorem tw_762 : (.instanceMethod yX11_initiate : Cond) ∈ lw_tbl := t5_in (List.mem_of_getElem? (i := 67) rfl)
set_option maxRecDepth 20000 in
theorem tw_763 : (.selects RX11 yX11_initiate yX11_initiate : Cond) ∈ lw_tbl := sel1_in (List.mem_of_getElem? (i := 11) rfl)
set_option maxRecDepth 20000 in
theorem tw_764 : (.code yX11_initiate cX11_initiate 5 none : Cond) ∈ lw_tbl := t5_in (List.mem_of_getElem? (i := 68) rfl)
set_option maxRecDepth 20000 in
theorem tw_765 : (.methodLink RX11 466 yX3_drawNumber : Cond) ∈ lw_tbl := t5_in (List.mem_of_getElem? (i := 69) rfl)
set_option maxRecDepth 20000 in
theorem tw_766 : (.instanceMethod yX3_drawNumber : Cond) ∈ lw_tbl := t5_in (List.mem_of_getElem? (i := 70) rfl)
set_option maxRecDepth 20000 in
theorem tw_767 : (.selects RX3 yX3_drawNumber yX3_drawNumber : Cond) ∈ lw_tbl := t5_in (List.mem_of_getElem? (i := 71) rfl)
set_option maxRecDepth 20000 in
theorem tw_768 : (.code yX3_drawNumber cX3_drawNumber 4 (some .int) : Cond) ∈ lw_tbl := t5_in (List.mem_of_getElem? (i := 72) rfl)
set_option maxRecDepth 20000 in
theorem tw_769 : (.methodLink RX11 475 yX3_enterLink : Cond) ∈ lw_tbl := t5_in (List.mem_of_getElem? (i := 73) rfl)
set_option maxRecDepth 20000 in
theorem tw_770 : (.instanceMethod yX3_enterLink : Cond) ∈ lw_tbl := t5_in (List.mem_of_getElem? (i := 74) rfl)
set_option maxRecDepth 20000 in
theorem tw_771 : (.selects RX3 yX3_enterLink yX3_enterLink : Cond) ∈ lw_tbl := t5_in (List.mem_of_getElem? (i := 75) rfl)
set_option maxRecDepth 20000 in
theorem tw_772 : (.code yX3_enterLink cX3_enterLink 3 none : Cond) ∈ lw_tbl := t5_in (List.mem_of_getElem? (i := 76) rfl)
set_option maxRecDepth 20000 in
theorem tw_773 : (.methodLink RX3 154 yX6_begin : Cond) ∈ lw_tbl := t5_in (List.mem_of_getElem? (i := 77) rfl)
set_option maxRecDepth 20000 in
theorem tw_774 : (.instanceMethod yX6_begin : Cond) ∈ lw_tbl := t5_in (List.mem_of_getElem? (i := 78) rfl)
set_option maxRecDepth 20000 in
theorem tw_775 : (.selects RX6 yX6_begin yX6_begin : Cond) ∈ lw_tbl := t5_in (List.mem_of_getElem? (i := 79) rfl)
set_option maxRecDepth 20000 in
theorem tw_776 : (.code yX6_begin cX6_begin 2 none : Cond) ∈ lw_tbl := t5_in (List.mem_of_getElem? (i := 80) rfl)
set_option maxRecDepth 20000 in
theorem tw_777 : (.methodLink RX11 479 yX3_accepts : Cond) ∈ lw_tbl := t5_in (List.mem_of_getElem? (i := 86) rfl)
set_option maxRecDepth 20000 in
theorem tw_778 : (.instanceMethod yX3_accepts : Cond) ∈ lw_tbl := t5_in (List.mem_of_getElem? (i := 87) rfl)
set_option maxRecDepth 20000 in
theorem tw_779 : (.selects RX3 yX3_accepts yX3_accepts : Cond) ∈ lw_tbl := t5_in (List.mem_of_getElem? (i := 88) rfl)
set_option maxRecDepth 20000 in
theorem tw_780 : (.code yX3_accepts cX3_accepts 7 (some .boolean) : Cond) ∈ lw_tbl := t5_in (List.mem_of_getElem? (i := 89) rfl)
set_option maxRecDepth 20000 in
theorem tw_781 : (.methodLink RX3 113 yX9_numberAt : Cond) ∈ lw_tbl := t5_in (List.mem_of_getElem? (i := 63) rfl)
set_option maxRecDepth 20000 in
theorem tw_782 : (.fieldLink RX3 65 "LowEnergy$Device" "address" "J" : Cond) ∈ lw_tbl := t3_in (List.mem_of_getElem? (i := 7) rfl)
set_option maxRecDepth 20000 in
theorem tw_783 : (.methodLink RX3 130 yX9_two : Cond) ∈ lw_tbl := t5_in (List.mem_of_getElem? (i := 90) rfl)
set_option maxRecDepth 20000 in
theorem tw_784 : (.methodLink RX3 134 yX9_at : Cond) ∈ lw_tbl := t5_in (List.mem_of_getElem? (i := 94) rfl)
set_option maxRecDepth 20000 in
theorem tw_785 : (.methodLink RX3 137 yX6_isProper : Cond) ∈ lw_tbl := t5_in (List.mem_of_getElem? (i := 95) rfl)
set_option maxRecDepth 20000 in
theorem tw_786 : (.methodLink RX3 150 yX6_arrange : Cond) ∈ lw_tbl := t5_in (List.mem_of_getElem? (i := 96) rfl)
set_option maxRecDepth 20000 in
theorem tw_787 : (.methodLink RX11 446 yX3_report : Cond) ∈ lw_tbl := t5_in (List.mem_of_getElem? (i := 59) rfl)
set_option maxRecDepth 20000 in
theorem tw_788 : (.instanceMethod yX3_report : Cond) ∈ lw_tbl := t5_in (List.mem_of_getElem? (i := 60) rfl)
set_option maxRecDepth 20000 in
theorem tw_789 : (.selects RX3 yX3_report yX3_report : Cond) ∈ lw_tbl := t5_in (List.mem_of_getElem? (i := 61) rfl)
set_option maxRecDepth 20000 in
theorem tw_790 : (.code yX3_report cX3_report 2 none : Cond) ∈ lw_tbl := t5_in (List.mem_of_getElem? (i := 62) rfl)
set_option maxRecDepth 20000 in
theorem tw_791 : (.fieldLink RX3 110 "LowEnergy$Device" "reports" "I" : Cond) ∈ lw_tbl := t3_in (List.mem_of_getElem? (i := 19) rfl)
set_option maxRecDepth 20000 in
theorem tw_792 : (.fieldLink RX3 117 "LowEnergy$Device" "reportAddress" "J" : Cond) ∈ lw_tbl := t3_in (List.mem_of_getElem? (i := 21) rfl)
set_option maxRecDepth 20000 in
theorem tw_793 : (.fieldLink RX3 20 "LowEnergy$Device" "reportData" "LLowEnergy$Row;" : Cond) ∈ lw_tbl := t3_in (List.mem_of_getElem? (i := 23) rfl)
set_option maxRecDepth 20000 in
theorem tw_794 : (.methodLink RX3 120 yX9_clear : Cond) ∈ lw_tbl := t4_in (List.mem_of_getElem? (i := 115) rfl)
set_option maxRecDepth 20000 in
theorem tw_795 : (.methodLink RX3 126 yX9_putPart : Cond) ∈ lw_tbl := t4_in (List.mem_of_getElem? (i := 118) rfl)
set_option maxRecDepth 20000 in
theorem tw_796 : (.methodLink RX11 423 yX3_draw : Cond) ∈ lw_tbl := t5_in (List.mem_of_getElem? (i := 14) rfl)
set_option maxRecDepth 20000 in
theorem tw_797 : (.methodLink RX11 398 yX11_beginEvents : Cond) ∈ lw_tbl := t5_in (List.mem_of_getElem? (i := 97) rfl)
set_option maxRecDepth 20000 in
theorem tw_798 : (.instanceMethod yX11_beginEvents : Cond) ∈ lw_tbl := t5_in (List.mem_of_getElem? (i := 99) rfl)
set_option maxRecDepth 20000 in
theorem tw_799 : (.selects RX11 yX11_beginEvents yX11_beginEvents : Cond) ∈ lw_tbl := sel1_in (List.mem_of_getElem? (i := 12) rfl)
set_option maxRecDepth 20000 in
theorem tw_800 : (.code yX11_beginEvents cX11_beginEvents 2 none : Cond) ∈ lw_tbl := t5_in (List.mem_of_getElem? (i := 100) rfl)
set_option maxRecDepth 20000 in
theorem tw_801 : (.methodLink RX11 487 yX6_hopOn : Cond) ∈ lw_tbl := t5_in (List.mem_of_getElem? (i := 106) rfl)
set_option maxRecDepth 20000 in
theorem tw_802 : (.instanceMethod yX6_hopOn : Cond) ∈ lw_tbl := t5_in (List.mem_of_getElem? (i := 107) rfl)
set_option maxRecDepth 20000 in
theorem tw_803 : (.selects RX6 yX6_hopOn yX6_hopOn : Cond) ∈ lw_tbl := t5_in (List.mem_of_getElem? (i := 108) rfl)
set_option maxRecDepth 20000 in
theorem tw_804 : (.code yX6_hopOn cX6_hopOn 1 none : Cond) ∈ lw_tbl := t5_in (List.mem_of_getElem? (i := 109) rfl)
set_option maxRecDepth 20000 in
theorem tw_805 : (.methodLink RX6 84 yX6_channelFor : Cond) ∈ lw_tbl := t5_in (List.mem_of_getElem? (i := 110) rfl)
set_option maxRecDepth 20000 in
theorem tw_806 : (.static yX6_channelFor : Cond) ∈ lw_tbl := t5_in (List.mem_of_getElem? (i := 111) rfl)
set_option maxRecDepth 20000 in
theorem tw_807 : (.code yX6_channelFor cX6_channelFor 6 (some .int) : Cond) ∈ lw_tbl := t5_in (List.mem_of_getElem? (i := 112) rfl)
set_option maxRecDepth 20000 in
theorem tw_808 : (.classLink RX11 388 tIA : Cond) ∈ lw_tbl := t4_in (List.mem_of_getElem? (i := 179) rfl)
set_option maxRecDepth 20000 in
theorem tw_809 : (.initialized tIA : Cond) ∈ lw_tbl := t1_in (List.mem_of_getElem? (i := 19) rfl)
set_option maxRecDepth 20000 in
theorem tw_810 : (.classLink RL 13 tIA : Cond) ∈ lw_tbl := t4_in (List.mem_of_getElem? (i := 174) rfl)
set_option maxRecDepth 20000 in
theorem tw_811 : (.methodLink RL 74 yX12_tick : Cond) ∈ lw_tbl := t8_in (List.mem_of_getElem? (i := 180) rfl)
set_option maxRecDepth 20000 in
theorem tw_812 : (.instanceMethod yX12_tick : Cond) ∈ lw_tbl := t8_in (List.mem_of_getElem? (i := 181) rfl)
set_option maxRecDepth 20000 in
theorem tw_813 : (.selects RX12 yX12_tick yX12_tick : Cond) ∈ lw_tbl := t8_in (List.mem_of_getElem? (i := 182) rfl)
set_option maxRecDepth 20000 in
theorem tw_814 : (.code yX12_tick cX12_tick 4 (some .int) : Cond) ∈ lw_tbl := t8_in (List.mem_of_getElem? (i := 183) rfl)
set_option maxRecDepth 20000 in
theorem tw_815 : (.methodLink RX12 675 yX12_one : Cond) ∈ lw_tbl := t8_in (List.mem_of_getElem? (i := 184) rfl)
set_option maxRecDepth 20000 in
theorem tw_816 : (.instanceMethod yX12_one : Cond) ∈ lw_tbl := t8_in (List.mem_of_getElem? (i := 186) rfl)
set_option maxRecDepth 20000 in
theorem tw_817 : (.selects RX12 yX12_one yX12_one : Cond) ∈ lw_tbl := sel4_in (List.mem_of_getElem? (i := 0) rfl)
set_option maxRecDepth 20000 in
theorem tw_818 : (.code yX12_one cX12_one 2 none : Cond) ∈ lw_tbl := t8_in (List.mem_of_getElem? (i := 187) rfl)
set_option maxRecDepth 20000 in
theorem tw_819 : (.methodLink RX12 662 yX12_isLinked : Cond) ∈ lw_tbl := t9_in (List.mem_of_getElem? (i := 20) rfl)
set_option maxRecDepth 20000 in
theorem tw_820 : (.instanceMethod yX12_isLinked : Cond) ∈ lw_tbl := t9_in (List.mem_of_getElem? (i := 22) rfl)
set_option maxRecDepth 20000 in
theorem tw_821 : (.selects RX12 yX12_isLinked yX12_isLinked : Cond) ∈ lw_tbl := sel4_in (List.mem_of_getElem? (i := 11) rfl)
set_option maxRecDepth 20000 in
theorem tw_822 : (.code yX12_isLinked cX12_isLinked 2 (some .boolean) : Cond) ∈ lw_tbl := t9_in (List.mem_of_getElem? (i := 23) rfl)
set_option maxRecDepth 20000 in
theorem tw_823 : (.methodLink RX12 672 yX12_looks : Cond) ∈ lw_tbl := t10_in (List.mem_of_getElem? (i := 4) rfl)
set_option maxRecDepth 20000 in
theorem tw_824 : (.instanceMethod yX12_looks : Cond) ∈ lw_tbl := t10_in (List.mem_of_getElem? (i := 6) rfl)
set_option maxRecDepth 20000 in
theorem tw_825 : (.selects RX12 yX12_looks yX12_looks : Cond) ∈ lw_tbl := sel8_in (List.mem_of_getElem? (i := 0) rfl)
set_option maxRecDepth 20000 in
theorem tw_826 : (.code yX12_looks cX12_looks 4 none : Cond) ∈ lw_tbl := t10_in (List.mem_of_getElem? (i := 7) rfl)
set_option maxRecDepth 20000 in
theorem tw_827 : (.fieldLink RX12 133 "LowEnergyModel" "reason" "[I" : Cond) ∈ lw_tbl := t7_in (List.mem_of_getElem? (i := 74) rfl)
set_option maxRecDepth 20000 in
theorem tw_828 : (.methodLink RX12 391 yX12_fresh : Cond) ∈ lw_tbl := t7_in (List.mem_of_getElem? (i := 34) rfl)
set_option maxRecDepth 20000 in
theorem tw_829 : (.instanceMethod yX12_fresh : Cond) ∈ lw_tbl := t7_in (List.mem_of_getElem? (i := 36) rfl)
set_option maxRecDepth 20000 in
theorem tw_830 : (.selects RX12 yX12_fresh yX12_fresh : Cond) ∈ lw_tbl := sel3_in (List.mem_of_getElem? (i := 15) rfl)
set_option maxRecDepth 20000 in
theorem tw_831 : (.code yX12_fresh cX12_fresh 2 none : Cond) ∈ lw_tbl := t7_in (List.mem_of_getElem? (i := 37) rfl)
set_option maxRecDepth 20000 in
theorem tw_832 : (.fieldLink RX12 118 "LowEnergyModel" "channel" "[I" : Cond) ∈ lw_tbl := t7_in (List.mem_of_getElem? (i := 69) rfl)
set_option maxRecDepth 20000 in
theorem tw_833 : (.fieldLink RX12 136 "LowEnergyModel" "ending" "[I" : Cond) ∈ lw_tbl := t7_in (List.mem_of_getElem? (i := 75) rfl)
set_option maxRecDepth 20000 in
theorem tw_834 : (.fieldLink RX12 145 "LowEnergyModel" "hasGood" "[Z" : Cond) ∈ lw_tbl := t7_in (List.mem_of_getElem? (i := 78) rfl)
set_option maxRecDepth 20000 in
theorem tw_835 : (.fieldLink RX12 149 "LowEnergyModel" "mapWaits" "[Z" : Cond) ∈ lw_tbl := t7_in (List.mem_of_getElem? (i := 79) rfl)
set_option maxRecDepth 20000 in
theorem tw_836 : (.fieldLink RX12 182 "LowEnergyModel" "currentSort" "[I" : Cond) ∈ lw_tbl := t7_in (List.mem_of_getElem? (i := 92) rfl)
set_option maxRecDepth 20000 in
theorem tw_837 : (.fieldLink RX12 185 "LowEnergyModel" "currentMany" "[I" : Cond) ∈ lw_tbl := t7_in (List.mem_of_getElem? (i := 93) rfl)
set_option maxRecDepth 20000 in
theorem tw_838 : (.fieldLink RX12 188 "LowEnergyModel" "currentOp" "[I" : Cond) ∈ lw_tbl := t7_in (List.mem_of_getElem? (i := 94) rfl)
set_option maxRecDepth 20000 in
theorem tw_839 : (.fieldLink RX12 191 "LowEnergyModel" "controls" "[I" : Cond) ∈ lw_tbl := t7_in (List.mem_of_getElem? (i := 95) rfl)
set_option maxRecDepth 20000 in
theorem tw_840 : (.fieldLink RX12 224 "LowEnergyModel" "held" "[Z" : Cond) ∈ lw_tbl := t7_in (List.mem_of_getElem? (i := 106) rfl)
set_option maxRecDepth 20000 in
theorem tw_841 : (.fieldLink RX12 227 "LowEnergyModel" "asked" "[Z" : Cond) ∈ lw_tbl := t7_in (List.mem_of_getElem? (i := 107) rfl)
set_option maxRecDepth 20000 in
theorem tw_842 : (.fieldLink RX12 230 "LowEnergyModel" "hasFour" "[Z" : Cond) ∈ lw_tbl := t7_in (List.mem_of_getElem? (i := 108) rfl)
set_option maxRecDepth 20000 in
theorem tw_843 : (.fieldLink RX12 233 "LowEnergyModel" "sealsOut" "[Z" : Cond) ∈ lw_tbl := t7_in (List.mem_of_getElem? (i := 109) rfl)
set_option maxRecDepth 20000 in
theorem tw_844 : (.fieldLink RX12 236 "LowEnergyModel" "sealsIn" "[Z" : Cond) ∈ lw_tbl := t7_in (List.mem_of_getElem? (i := 110) rfl)
set_option maxRecDepth 20000 in
theorem tw_845 : (.fieldLink RX12 194 "LowEnergyModel" "out" "[I" : Cond) ∈ lw_tbl := t7_in (List.mem_of_getElem? (i := 96) rfl)
set_option maxRecDepth 20000 in
theorem tw_846 : (.fieldLink RX12 197 "LowEnergyModel" "opened" "[I" : Cond) ∈ lw_tbl := t7_in (List.mem_of_getElem? (i := 97) rfl)
set_option maxRecDepth 20000 in
theorem tw_847 : (.fieldLink RX12 239 "LowEnergyModel" "isSecure" "[Z" : Cond) ∈ lw_tbl := t7_in (List.mem_of_getElem? (i := 111) rfl)
set_option maxRecDepth 20000 in
theorem tw_848 : (.fieldLink RX12 242 "LowEnergyModel" "hasSession" "[Z" : Cond) ∈ lw_tbl := t7_in (List.mem_of_getElem? (i := 112) rfl)
set_option maxRecDepth 20000 in
theorem tw_849 : (.fieldLink RX12 248 "LowEnergyModel" "toldVersion" "[Z" : Cond) ∈ lw_tbl := t7_in (List.mem_of_getElem? (i := 114) rfl)
set_option maxRecDepth 20000 in
theorem tw_850 : (.fieldLink RX12 275 "LowEnergyModel" "messages" "[I" : Cond) ∈ lw_tbl := t7_in (List.mem_of_getElem? (i := 123) rfl)
set_option maxRecDepth 20000 in
theorem tw_851 : (.fieldLink RX12 278 "LowEnergyModel" "taken" "[I" : Cond) ∈ lw_tbl := t7_in (List.mem_of_getElem? (i := 124) rfl)
set_option maxRecDepth 20000 in
theorem tw_852 : (.fieldLink RX12 287 "LowEnergyModel" "begun" "[Z" : Cond) ∈ lw_tbl := t7_in (List.mem_of_getElem? (i := 127) rfl)
set_option maxRecDepth 20000 in
theorem tw_853 : (.fieldLink RX12 296 "LowEnergyModel" "step" "[I" : Cond) ∈ lw_tbl := t7_in (List.mem_of_getElem? (i := 130) rfl)
set_option maxRecDepth 20000 in
theorem tw_854 : (.fieldLink RX12 332 "LowEnergyModel" "mtu" "[I" : Cond) ∈ lw_tbl := t7_in (List.mem_of_getElem? (i := 142) rfl)
set_option maxRecDepth 20000 in
theorem tw_855 : (.fieldLink RX12 338 "LowEnergyModel" "parts" "[I" : Cond) ∈ lw_tbl := t7_in (List.mem_of_getElem? (i := 144) rfl)
set_option maxRecDepth 20000 in
theorem tw_856 : (.fieldLink RX12 362 "LowEnergyModel" "waits30" "[Z" : Cond) ∈ lw_tbl := t7_in (List.mem_of_getElem? (i := 152) rfl)
set_option maxRecDepth 20000 in
theorem tw_857 : (.fieldLink RX12 365 "LowEnergyModel" "job" "[I" : Cond) ∈ lw_tbl := t7_in (List.mem_of_getElem? (i := 153) rfl)
set_option maxRecDepth 20000 in
theorem tw_858 : (.methodLink RX12 504 yX12_complete_ : Cond) ∈ lw_tbl := t9_in (List.mem_of_getElem? (i := 3) rfl)
set_option maxRecDepth 20000 in
theorem tw_859 : (.instanceMethod yX12_complete_ : Cond) ∈ lw_tbl := t9_in (List.mem_of_getElem? (i := 5) rfl)
set_option maxRecDepth 20000 in
theorem tw_860 : (.selects RX12 yX12_complete_ yX12_complete_ : Cond) ∈ lw_tbl := sel4_in (List.mem_of_getElem? (i := 9) rfl)
set_option maxRecDepth 20000 in
theorem tw_861 : (.code yX12_complete_ cX12_complete_ 6 none : Cond) ∈ lw_tbl := t9_in (List.mem_of_getElem? (i := 6) rfl)
set_option maxRecDepth 20000 in
theorem tw_862 : (.methodLink RX12 409 yX12_complete : Cond) ∈ lw_tbl := t9_in (List.mem_of_getElem? (i := 7) rfl)
set_option maxRecDepth 20000 in
theorem tw_863 : (.instanceMethod yX12_complete : Cond) ∈ lw_tbl := t9_in (List.mem_of_getElem? (i := 9) rfl)
set_option maxRecDepth 20000 in
theorem tw_864 : (.selects RX12 yX12_complete yX12_complete : Cond) ∈ lw_tbl := sel4_in (List.mem_of_getElem? (i := 10) rfl)
set_option maxRecDepth 20000 in
theorem tw_865 : (.code yX12_complete cX12_complete 11 none : Cond) ∈ lw_tbl := t9_in (List.mem_of_getElem? (i := 10) rfl)
set_option maxRecDepth 20000 in
theorem tw_866 : (.fieldLink RX12 155 "LowEnergyModel" "kept" "[I" : Cond) ∈ lw_tbl := t7_in (List.mem_of_getElem? (i := 82) rfl)
set_option maxRecDepth 20000 in
theorem tw_867 : (.fieldLink RX12 158 "LowEnergyModel" "keptMany" "[I" : Cond) ∈ lw_tbl := t7_in (List.mem_of_getElem? (i := 83) rfl)
set_option maxRecDepth 20000 in
theorem tw_868 : (.methodLink RX12 404 Lib.Math.min.name : Cond) ∈ lw_tbl := t9_in (List.mem_of_getElem? (i := 11) rfl)
set_option maxRecDepth 20000 in
theorem tw_869 : (.fieldLink RX12 161 "LowEnergyModel" "notKept" "[I" : Cond) ∈ lw_tbl := t7_in (List.mem_of_getElem? (i := 84) rfl)
set_option maxRecDepth 20000 in
theorem tw_870 : (.methodLink RX12 459 yX12_reasons : Cond) ∈ lw_tbl := t9_in (List.mem_of_getElem? (i := 36) rfl)
set_option maxRecDepth 20000 in
theorem tw_871 : (.instanceMethod yX12_reasons : Cond) ∈ lw_tbl := t9_in (List.mem_of_getElem? (i := 38) rfl)
set_option maxRecDepth 20000 in
theorem tw_872 : (.selects RX12 yX12_reasons yX12_reasons : Cond) ∈ lw_tbl := sel4_in (List.mem_of_getElem? (i := 15) rfl)
set_option maxRecDepth 20000 in
theorem tw_873 : (.code yX12_reasons cX12_reasons 3 none : Cond) ∈ lw_tbl := t9_in (List.mem_of_getElem? (i := 39) rfl)
set_option maxRecDepth 20000 in
theorem tw_874 : (.fieldLink RX12 130 "LowEnergyModel" "heardAt" "[I" : Cond) ∈ lw_tbl := t7_in (List.mem_of_getElem? (i := 73) rfl)
set_option maxRecDepth 20000 in
theorem tw_875 : (.fieldLink RX12 152 "LowEnergyModel" "mine" "[Z" : Cond) ∈ lw_tbl := t7_in (List.mem_of_getElem? (i := 80) rfl)
set_option maxRecDepth 20000 in
theorem tw_876 : (.fieldLink RX12 112 "LowEnergyModel" "event" "[I" : Cond) ∈ lw_tbl := t7_in (List.mem_of_getElem? (i := 67) rfl)
set_option maxRecDepth 20000 in
theorem tw_877 : (.constant RX12 493 (65535) : Cond) ∈ lw_tbl := t9_in (List.mem_of_getElem? (i := 83) rfl)
set_option maxRecDepth 20000 in
theorem tw_878 : (.fieldLink RX12 121 "LowEnergyModel" "anchor" "[I" : Cond) ∈ lw_tbl := t7_in (List.mem_of_getElem? (i := 70) rfl)
set_option maxRecDepth 20000 in
theorem tw_879 : (.methodLink RX12 669 yX12_meets : Cond) ∈ lw_tbl := t9_in (List.mem_of_getElem? (i := 28) rfl)
set_option maxRecDepth 20000 in
theorem tw_880 : (.instanceMethod yX12_meets : Cond) ∈ lw_tbl := t9_in (List.mem_of_getElem? (i := 30) rfl)
set_option maxRecDepth 20000 in
theorem tw_881 : (.selects RX12 yX12_meets yX12_meets : Cond) ∈ lw_tbl := sel4_in (List.mem_of_getElem? (i := 13) rfl)
set_option maxRecDepth 20000 in
theorem tw_882 : (.code yX12_meets cX12_meets 4 none : Cond) ∈ lw_tbl := t9_in (List.mem_of_getElem? (i := 31) rfl)
set_option maxRecDepth 20000 in
theorem tw_883 : (.methodLink RX12 653 yX12_sendsLink : Cond) ∈ lw_tbl := t9_in (List.mem_of_getElem? (i := 32) rfl)
set_option maxRecDepth 20000 in
theorem tw_884 : (.instanceMethod yX12_sendsLink : Cond) ∈ lw_tbl := t9_in (List.mem_of_getElem? (i := 34) rfl)
set_option maxRecDepth 20000 in
theorem tw_885 : (.selects RX12 yX12_sendsLink yX12_sendsLink : Cond) ∈ lw_tbl := sel4_in (List.mem_of_getElem? (i := 14) rfl)
set_option maxRecDepth 20000 in
theorem tw_886 : (.code yX12_sendsLink cX12_sendsLink 2 (some .int) : Cond) ∈ lw_tbl := t9_in (List.mem_of_getElem? (i := 35) rfl)
set_option maxRecDepth 20000 in
theorem tw_887 : (.fieldLink RX12 200 "LowEnergyModel" "current" "[B" : Cond) ∈ lw_tbl := t7_in (List.mem_of_getElem? (i := 98) rfl)
set_option maxRecDepth 20000 in
theorem tw_888 : (.fieldLink RX12 176 "LowEnergyModel" "sending" "[B" : Cond) ∈ lw_tbl := t7_in (List.mem_of_getElem? (i := 90) rfl)
set_option maxRecDepth 20000 in
theorem tw_889 : (.fieldLink RX12 142 "LowEnergyModel" "access" "[B" : Cond) ∈ lw_tbl := t7_in (List.mem_of_getElem? (i := 77) rfl)
set_option maxRecDepth 20000 in
theorem tw_890 : (.fieldLink RX12 109 "LowEnergyModel" "init" "[I" : Cond) ∈ lw_tbl := t7_in (List.mem_of_getElem? (i := 66) rfl)
set_option maxRecDepth 20000 in
theorem tw_891 : (.fieldLink RX12 127 "LowEnergyModel" "nesn" "[I" : Cond) ∈ lw_tbl := t7_in (List.mem_of_getElem? (i := 72) rfl)
set_option maxRecDepth 20000 in
theorem tw_892 : (.fieldLink RX12 124 "LowEnergyModel" "sn" "[I" : Cond) ∈ lw_tbl := t7_in (List.mem_of_getElem? (i := 71) rfl)
set_option maxRecDepth 20000 in
theorem tw_893 : (.methodLink RX12 466 yX12_sends : Cond) ∈ lw_tbl := t8_in (List.mem_of_getElem? (i := 210) rfl)
set_option maxRecDepth 20000 in
theorem tw_894 : (.instanceMethod yX12_sends : Cond) ∈ lw_tbl := t8_in (List.mem_of_getElem? (i := 212) rfl)
set_option maxRecDepth 20000 in
theorem tw_895 : (.selects RX12 yX12_sends yX12_sends : Cond) ∈ lw_tbl := sel4_in (List.mem_of_getElem? (i := 4) rfl)
set_option maxRecDepth 20000 in
theorem tw_896 : (.code yX12_sends cX12_sends 11 (some .int) : Cond) ∈ lw_tbl := t8_in (List.mem_of_getElem? (i := 213) rfl)
set_option maxRecDepth 20000 in
theorem tw_897 : (.fieldLink RX12 164 "LowEnergyModel" "air" "[B" : Cond) ∈ lw_tbl := t7_in (List.mem_of_getElem? (i := 85) rfl)
set_option maxRecDepth 20000 in
theorem tw_898 : (.fieldLink RX12 94 "LowEnergyModel" "lost" "[I" : Cond) ∈ lw_tbl := t7_in (List.mem_of_getElem? (i := 61) rfl)
set_option maxRecDepth 20000 in
theorem tw_899 : (.fieldLink RX12 97 "LowEnergyModel" "noises" "[I" : Cond) ∈ lw_tbl := t7_in (List.mem_of_getElem? (i := 62) rfl)
set_option maxRecDepth 20000 in
theorem tw_900 : (.fieldLink RX12 429 "LowEnergyModel" "packets" "I" : Cond) ∈ lw_tbl := t7_in (List.mem_of_getElem? (i := 89) rfl)
set_option maxRecDepth 20000 in
theorem tw_901 : (.fieldLink RX12 167 "LowEnergyModel" "airMany" "[I" : Cond) ∈ lw_tbl := t7_in (List.mem_of_getElem? (i := 86) rfl)
set_option maxRecDepth 20000 in
theorem tw_902 : (.fieldLink RX12 170 "LowEnergyModel" "airChannel" "[I" : Cond) ∈ lw_tbl := t7_in (List.mem_of_getElem? (i := 87) rfl)
set_option maxRecDepth 20000 in
theorem tw_903 : (.fieldLink RX12 173 "LowEnergyModel" "airLost" "[Z" : Cond) ∈ lw_tbl := t7_in (List.mem_of_getElem? (i := 88) rfl)
set_option maxRecDepth 20000 in
theorem tw_904 : (.fieldLink RX12 100 "LowEnergyModel" "noise" "[I" : Cond) ∈ lw_tbl := t7_in (List.mem_of_getElem? (i := 63) rfl)
set_option maxRecDepth 20000 in
theorem tw_905 : (.methodLink RX12 425 yX12_whiten : Cond) ∈ lw_tbl := t8_in (List.mem_of_getElem? (i := 221) rfl)
set_option maxRecDepth 20000 in
theorem tw_906 : (.static yX12_whiten : Cond) ∈ lw_tbl := t8_in (List.mem_of_getElem? (i := 222) rfl)
set_option maxRecDepth 20000 in
theorem tw_907 : (.code yX12_whiten cX12_whiten 7 none : Cond) ∈ lw_tbl := t8_in (List.mem_of_getElem? (i := 223) rfl)
set_option maxRecDepth 20000 in
theorem tw_908 : (.methodLink RX12 422 yX12_crcByte : Cond) ∈ lw_tbl := t8_in (List.mem_of_getElem? (i := 218) rfl)
set_option maxRecDepth 20000 in
theorem tw_909 : (.static yX12_crcByte : Cond) ∈ lw_tbl := t8_in (List.mem_of_getElem? (i := 219) rfl)
set_option maxRecDepth 20000 in
theorem tw_910 : (.code yX12_crcByte cX12_crcByte 4 (some .int) : Cond) ∈ lw_tbl := t8_in (List.mem_of_getElem? (i := 220) rfl)
set_option maxRecDepth 20000 in
theorem tw_911 : (.methodLink RX12 418 yX12_crc : Cond) ∈ lw_tbl := t8_in (List.mem_of_getElem? (i := 214) rfl)
set_option maxRecDepth 20000 in
theorem tw_912 : (.static yX12_crc : Cond) ∈ lw_tbl := t8_in (List.mem_of_getElem? (i := 215) rfl)
set_option maxRecDepth 20000 in
theorem tw_913 : (.code yX12_crc cX12_crc 7 (some .int) : Cond) ∈ lw_tbl := t8_in (List.mem_of_getElem? (i := 216) rfl)
set_option maxRecDepth 20000 in
theorem tw_914 : (.constant RX12 417 (16777215) : Cond) ∈ lw_tbl := t8_in (List.mem_of_getElem? (i := 217) rfl)
set_option maxRecDepth 20000 in
theorem tw_915 : (.methodLink RX12 463 yX12_takesNext : Cond) ∈ lw_tbl := t9_in (List.mem_of_getElem? (i := 40) rfl)
set_option maxRecDepth 20000 in
theorem tw_916 : (.instanceMethod yX12_takesNext : Cond) ∈ lw_tbl := t9_in (List.mem_of_getElem? (i := 42) rfl)
set_option maxRecDepth 20000 in
theorem tw_917 : (.selects RX12 yX12_takesNext yX12_takesNext : Cond) ∈ lw_tbl := sel5_in (List.mem_of_getElem? (i := 0) rfl)
set_option maxRecDepth 20000 in
theorem tw_918 : (.code yX12_takesNext cX12_takesNext 4 none : Cond) ∈ lw_tbl := t9_in (List.mem_of_getElem? (i := 43) rfl)
set_option maxRecDepth 20000 in
theorem tw_919 : (.methodLink RX12 451 yX12_macs : Cond) ∈ lw_tbl := t9_in (List.mem_of_getElem? (i := 48) rfl)
set_option maxRecDepth 20000 in
theorem tw_920 : (.instanceMethod yX12_macs : Cond) ∈ lw_tbl := t9_in (List.mem_of_getElem? (i := 50) rfl)
set_option maxRecDepth 20000 in
theorem tw_921 : (.selects RX12 yX12_macs yX12_macs : Cond) ∈ lw_tbl := sel5_in (List.mem_of_getElem? (i := 2) rfl)
set_option maxRecDepth 20000 in
theorem tw_922 : (.code yX12_macs cX12_macs 10 none : Cond) ∈ lw_tbl := t9_in (List.mem_of_getElem? (i := 51) rfl)
set_option maxRecDepth 20000 in
theorem tw_923 : (.fieldLink RX12 254 "LowEnergyModel" "mac" "[B" : Cond) ∈ lw_tbl := t7_in (List.mem_of_getElem? (i := 116) rfl)
set_option maxRecDepth 20000 in
theorem tw_924 : (.fieldLink RX12 257 "LowEnergyModel" "stream" "[B" : Cond) ∈ lw_tbl := t7_in (List.mem_of_getElem? (i := 117) rfl)
set_option maxRecDepth 20000 in
theorem tw_925 : (.fieldLink RX12 209 "LowEnergyModel" "session" "[B" : Cond) ∈ lw_tbl := t7_in (List.mem_of_getElem? (i := 101) rfl)
set_option maxRecDepth 20000 in
theorem tw_926 : (.methodLink RX12 444 yX12_e : Cond) ∈ lw_tbl := t9_in (List.mem_of_getElem? (i := 56) rfl)
set_option maxRecDepth 20000 in
theorem tw_927 : (.instanceMethod yX12_e : Cond) ∈ lw_tbl := t9_in (List.mem_of_getElem? (i := 58) rfl)
set_option maxRecDepth 20000 in
theorem tw_928 : (.selects RX12 yX12_e yX12_e : Cond) ∈ lw_tbl := sel5_in (List.mem_of_getElem? (i := 4) rfl)
set_option maxRecDepth 20000 in
theorem tw_929 : (.code yX12_e cX12_e 13 none : Cond) ∈ lw_tbl := t9_in (List.mem_of_getElem? (i := 59) rfl)
set_option maxRecDepth 20000 in
theorem tw_930 : (.fieldLink RX12 33 "LowEnergyModel" "cells" "[B" : Cond) ∈ lw_tbl := t7_in (List.mem_of_getElem? (i := 43) rfl)
set_option maxRecDepth 20000 in
theorem tw_931 : (.fieldLink RX12 26 "LowEnergyModel" "round" "[B" : Cond) ∈ lw_tbl := t7_in (List.mem_of_getElem? (i := 42) rfl)
set_option maxRecDepth 20000 in
theorem tw_932 : (.fieldLink RX12 36 "LowEnergyModel" "moved" "[B" : Cond) ∈ lw_tbl := t7_in (List.mem_of_getElem? (i := 44) rfl)
set_option maxRecDepth 20000 in
theorem tw_933 : (.methodLink RX12 14 yX12_twice : Cond) ∈ lw_tbl := t7_in (List.mem_of_getElem? (i := 30) rfl)
set_option maxRecDepth 20000 in
theorem tw_934 : (.static yX12_twice : Cond) ∈ lw_tbl := t7_in (List.mem_of_getElem? (i := 31) rfl)
set_option maxRecDepth 20000 in
theorem tw_935 : (.code yX12_twice cX12_twice 1 (some .int) : Cond) ∈ lw_tbl := t7_in (List.mem_of_getElem? (i := 32) rfl)
set_option maxRecDepth 20000 in
theorem tw_936 : (.fieldLink RX12 22 "LowEnergyModel" "box" "[I" : Cond) ∈ lw_tbl := t7_in (List.mem_of_getElem? (i := 41) rfl)
set_option maxRecDepth 20000 in
theorem tw_937 : (.methodLink RX12 440 yX12_nonce : Cond) ∈ lw_tbl := t9_in (List.mem_of_getElem? (i := 52) rfl)
set_option maxRecDepth 20000 in
theorem tw_938 : (.instanceMethod yX12_nonce : Cond) ∈ lw_tbl := t9_in (List.mem_of_getElem? (i := 54) rfl)
set_option maxRecDepth 20000 in
theorem tw_939 : (.selects RX12 yX12_nonce yX12_nonce : Cond) ∈ lw_tbl := sel5_in (List.mem_of_getElem? (i := 3) rfl)
set_option maxRecDepth 20000 in
theorem tw_940 : (.code yX12_nonce cX12_nonce 7 none : Cond) ∈ lw_tbl := t9_in (List.mem_of_getElem? (i := 55) rfl)
set_option maxRecDepth 20000 in
theorem tw_941 : (.fieldLink RX12 251 "LowEnergyModel" "block" "[B" : Cond) ∈ lw_tbl := t7_in (List.mem_of_getElem? (i := 115) rfl)
set_option maxRecDepth 20000 in
theorem tw_942 : (.methodLink RX12 432 yX12_number : Cond) ∈ lw_tbl := t8_in (List.mem_of_getElem? (i := 201) rfl)
set_option maxRecDepth 20000 in
theorem tw_943 : (.static yX12_number : Cond) ∈ lw_tbl := t8_in (List.mem_of_getElem? (i := 202) rfl)
set_option maxRecDepth 20000 in
theorem tw_944 : (.code yX12_number cX12_number 6 none : Cond) ∈ lw_tbl := t8_in (List.mem_of_getElem? (i := 203) rfl)
set_option maxRecDepth 20000 in
theorem tw_945 : (.fieldLink RX12 212 "LowEnergyModel" "iv" "[B" : Cond) ∈ lw_tbl := t7_in (List.mem_of_getElem? (i := 102) rfl)
set_option maxRecDepth 20000 in
theorem tw_946 : (.methodLink RX12 455 yX12_turns : Cond) ∈ lw_tbl := t9_in (List.mem_of_getElem? (i := 60) rfl)
set_option maxRecDepth 20000 in
theorem tw_947 : (.instanceMethod yX12_turns : Cond) ∈ lw_tbl := t9_in (List.mem_of_getElem? (i := 62) rfl)
set_option maxRecDepth 20000 in
theorem tw_948 : (.selects RX12 yX12_turns yX12_turns : Cond) ∈ lw_tbl := sel5_in (List.mem_of_getElem? (i := 5) rfl)
set_option maxRecDepth 20000 in
theorem tw_949 : (.code yX12_turns cX12_turns 9 none : Cond) ∈ lw_tbl := t9_in (List.mem_of_getElem? (i := 63) rfl)
set_option maxRecDepth 20000 in
theorem tw_950 : (.fieldLink RX12 203 "LowEnergyModel" "control" "[B" : Cond) ∈ lw_tbl := t7_in (List.mem_of_getElem? (i := 99) rfl)
set_option maxRecDepth 20000 in
theorem tw_951 : (.fieldLink RX12 221 "LowEnergyModel" "controlMany" "[I" : Cond) ∈ lw_tbl := t7_in (List.mem_of_getElem? (i := 105) rfl)
set_option maxRecDepth 20000 in
theorem tw_952 : (.fieldLink RX12 272 "LowEnergyModel" "messageMany" "[I" : Cond) ∈ lw_tbl := t7_in (List.mem_of_getElem? (i := 122) rfl)
set_option maxRecDepth 20000 in
theorem tw_953 : (.fieldLink RX12 266 "LowEnergyModel" "message" "[B" : Cond) ∈ lw_tbl := t7_in (List.mem_of_getElem? (i := 120) rfl)
set_option maxRecDepth 20000 in
theorem tw_954 : (.methodLink RX12 448 yX12_drops : Cond) ∈ lw_tbl := t9_in (List.mem_of_getElem? (i := 44) rfl)
set_option maxRecDepth 20000 in
theorem tw_955 : (.instanceMethod yX12_drops : Cond) ∈ lw_tbl := t9_in (List.mem_of_getElem? (i := 46) rfl)
set_option maxRecDepth 20000 in
theorem tw_956 : (.selects RX12 yX12_drops yX12_drops : Cond) ∈ lw_tbl := sel5_in (List.mem_of_getElem? (i := 1) rfl)
set_option maxRecDepth 20000 in
theorem tw_957 : (.code yX12_drops cX12_drops 4 none : Cond) ∈ lw_tbl := t9_in (List.mem_of_getElem? (i := 47) rfl)
set_option maxRecDepth 20000 in
theorem tw_958 : (.methodLink RX12 640 yX12_isHeard : Cond) ∈ lw_tbl := t8_in (List.mem_of_getElem? (i := 224) rfl)
set_option maxRecDepth 20000 in
theorem tw_959 : (.instanceMethod yX12_isHeard : Cond) ∈ lw_tbl := t8_in (List.mem_of_getElem? (i := 226) rfl)
set_option maxRecDepth 20000 in
theorem tw_960 : (.selects RX12 yX12_isHeard yX12_isHeard : Cond) ∈ lw_tbl := sel4_in (List.mem_of_getElem? (i := 5) rfl)
set_option maxRecDepth 20000 in
theorem tw_961 : (.code yX12_isHeard cX12_isHeard 7 (some .boolean) : Cond) ∈ lw_tbl := t8_in (List.mem_of_getElem? (i := 227) rfl)
set_option maxRecDepth 20000 in
theorem tw_962 : (.methodLink RX12 644 yX12_isGood : Cond) ∈ lw_tbl := t8_in (List.mem_of_getElem? (i := 228) rfl)
set_option maxRecDepth 20000 in
theorem tw_963 : (.instanceMethod yX12_isGood : Cond) ∈ lw_tbl := t8_in (List.mem_of_getElem? (i := 230) rfl)
set_option maxRecDepth 20000 in
theorem tw_964 : (.selects RX12 yX12_isGood yX12_isGood : Cond) ∈ lw_tbl := sel4_in (List.mem_of_getElem? (i := 6) rfl)
set_option maxRecDepth 20000 in
theorem tw_965 : (.code yX12_isGood cX12_isGood 6 (some .boolean) : Cond) ∈ lw_tbl := t8_in (List.mem_of_getElem? (i := 231) rfl)
set_option maxRecDepth 20000 in
theorem tw_966 : (.fieldLink RX12 179 "LowEnergyModel" "got" "[B" : Cond) ∈ lw_tbl := t7_in (List.mem_of_getElem? (i := 91) rfl)
set_option maxRecDepth 20000 in
theorem tw_967 : (.methodLink RX12 656 yX12_takesGood : Cond) ∈ lw_tbl := t9_in (List.mem_of_getElem? (i := 64) rfl)
set_option maxRecDepth 20000 in
theorem tw_968 : (.instanceMethod yX12_takesGood : Cond) ∈ lw_tbl := t9_in (List.mem_of_getElem? (i := 66) rfl)
set_option maxRecDepth 20000 in
theorem tw_969 : (.selects RX12 yX12_takesGood yX12_takesGood : Cond) ∈ lw_tbl := sel5_in (List.mem_of_getElem? (i := 6) rfl)
set_option maxRecDepth 20000 in
theorem tw_970 : (.code yX12_takesGood cX12_takesGood 8 none : Cond) ∈ lw_tbl := t9_in (List.mem_of_getElem? (i := 67) rfl)
set_option maxRecDepth 20000 in
theorem tw_971 : (.methodLink RX12 476 yX12_pieces : Cond) ∈ lw_tbl := t9_in (List.mem_of_getElem? (i := 105) rfl)
set_option maxRecDepth 20000 in
theorem tw_972 : (.instanceMethod yX12_pieces : Cond) ∈ lw_tbl := t9_in (List.mem_of_getElem? (i := 107) rfl)
set_option maxRecDepth 20000 in
theorem tw_973 : (.selects RX12 yX12_pieces yX12_pieces : Cond) ∈ lw_tbl := sel5_in (List.mem_of_getElem? (i := 15) rfl)
set_option maxRecDepth 20000 in
theorem tw_974 : (.code yX12_pieces cX12_pieces 7 none : Cond) ∈ lw_tbl := t9_in (List.mem_of_getElem? (i := 108) rfl)
set_option maxRecDepth 20000 in
theorem tw_975 : (.fieldLink RX12 269 "LowEnergyModel" "whole" "[B" : Cond) ∈ lw_tbl := t7_in (List.mem_of_getElem? (i := 121) rfl)
set_option maxRecDepth 20000 in
theorem tw_976 : (.fieldLink RX12 293 "LowEnergyModel" "asks" "[B" : Cond) ∈ lw_tbl := t7_in (List.mem_of_getElem? (i := 129) rfl)
set_option maxRecDepth 20000 in
theorem tw_977 : (.methodLink RX12 525 yX12_attributes : Cond) ∈ lw_tbl := t9_in (List.mem_of_getElem? (i := 137) rfl)
set_option maxRecDepth 20000 in
theorem tw_978 : (.instanceMethod yX12_attributes : Cond) ∈ lw_tbl := t9_in (List.mem_of_getElem? (i := 139) rfl)
set_option maxRecDepth 20000 in
theorem tw_979 : (.selects RX12 yX12_attributes yX12_attributes : Cond) ∈ lw_tbl := sel6_in (List.mem_of_getElem? (i := 7) rfl)
set_option maxRecDepth 20000 in
theorem tw_980 : (.code yX12_attributes cX12_attributes 4 none : Cond) ∈ lw_tbl := t9_in (List.mem_of_getElem? (i := 140) rfl)
set_option maxRecDepth 20000 in
theorem tw_981 : (.methodLink RX12 562 yX12_asked : Cond) ∈ lw_tbl := t9_in (List.mem_of_getElem? (i := 204) rfl)
set_option maxRecDepth 20000 in
theorem tw_982 : (.instanceMethod yX12_asked : Cond) ∈ lw_tbl := t9_in (List.mem_of_getElem? (i := 206) rfl)
set_option maxRecDepth 20000 in
theorem tw_983 : (.selects RX12 yX12_asked yX12_asked : Cond) ∈ lw_tbl := sel7_in (List.mem_of_getElem? (i := 6) rfl)
set_option maxRecDepth 20000 in
theorem tw_984 : (.code yX12_asked cX12_asked 7 none : Cond) ∈ lw_tbl := t9_in (List.mem_of_getElem? (i := 207) rfl)
set_option maxRecDepth 20000 in
theorem tw_985 : (.methodLink RX12 590 yX12_reads : Cond) ∈ lw_tbl := t9_in (List.mem_of_getElem? (i := 236) rfl)
set_option maxRecDepth 20000 in
theorem tw_986 : (.instanceMethod yX12_reads : Cond) ∈ lw_tbl := t9_in (List.mem_of_getElem? (i := 238) rfl)
set_option maxRecDepth 20000 in
theorem tw_987 : (.selects RX12 yX12_reads yX12_reads : Cond) ∈ lw_tbl := sel7_in (List.mem_of_getElem? (i := 14) rfl)
set_option maxRecDepth 20000 in
theorem tw_988 : (.code yX12_reads cX12_reads 9 none : Cond) ∈ lw_tbl := t9_in (List.mem_of_getElem? (i := 239) rfl)
set_option maxRecDepth 20000 in
theorem tw_989 : (.methodLink RX12 564 yX12_error : Cond) ∈ lw_tbl := t9_in (List.mem_of_getElem? (i := 212) rfl)
set_option maxRecDepth 20000 in
theorem tw_990 : (.instanceMethod yX12_error : Cond) ∈ lw_tbl := t9_in (List.mem_of_getElem? (i := 214) rfl)
set_option maxRecDepth 20000 in
theorem tw_991 : (.selects RX12 yX12_error yX12_error : Cond) ∈ lw_tbl := sel7_in (List.mem_of_getElem? (i := 8) rfl)
set_option maxRecDepth 20000 in
theorem tw_992 : (.code yX12_error cX12_error 5 none : Cond) ∈ lw_tbl := t9_in (List.mem_of_getElem? (i := 215) rfl)
set_option maxRecDepth 20000 in
theorem tw_993 : (.fieldLink RX12 290 "LowEnergyModel" "said" "[B" : Cond) ∈ lw_tbl := t7_in (List.mem_of_getElem? (i := 128) rfl)
set_option maxRecDepth 20000 in
theorem tw_994 : (.methodLink RX12 527 yX12_says : Cond) ∈ lw_tbl := t9_in (List.mem_of_getElem? (i := 117) rfl)
set_option maxRecDepth 20000 in
theorem tw_995 : (.instanceMethod yX12_says : Cond) ∈ lw_tbl := t9_in (List.mem_of_getElem? (i := 119) rfl)
set_option maxRecDepth 20000 in
theorem tw_996 : (.selects RX12 yX12_says yX12_says : Cond) ∈ lw_tbl := sel6_in (List.mem_of_getElem? (i := 2) rfl)
set_option maxRecDepth 20000 in
theorem tw_997 : (.code yX12_says cX12_says 5 none : Cond) ∈ lw_tbl := t9_in (List.mem_of_getElem? (i := 120) rfl)
set_option maxRecDepth 20000 in
theorem tw_998 : (.fieldLink RX12 329 "LowEnergyModel" "length" "[I" : Cond) ∈ lw_tbl := t7_in (List.mem_of_getElem? (i := 141) rfl)
set_option maxRecDepth 20000 in
theorem tw_999 : (.fieldLink RX12 341 "LowEnergyModel" "values" "[B" : Cond) ∈ lw_tbl := t7_in (List.mem_of_getElem? (i := 145) rfl)
set_option maxRecDepth 20000 in
theorem tw_1000 : (.methodLink RX12 570 yX12_lacks : Cond) ∈ lw_tbl := t9_in (List.mem_of_getElem? (i := 192) rfl)
set_option maxRecDepth 20000 in
theorem tw_1001 : (.instanceMethod yX12_lacks : Cond) ∈ lw_tbl := t9_in (List.mem_of_getElem? (i := 194) rfl)
set_option maxRecDepth 20000 in
theorem tw_1002 : (.selects RX12 yX12_lacks yX12_lacks : Cond) ∈ lw_tbl := sel7_in (List.mem_of_getElem? (i := 3) rfl)
set_option maxRecDepth 20000 in
theorem tw_1003 : (.code yX12_lacks cX12_lacks 5 (some .int) : Cond) ∈ lw_tbl := t9_in (List.mem_of_getElem? (i := 195) rfl)
set_option maxRecDepth 20000 in
theorem tw_1004 : (.fieldLink RX12 326 "LowEnergyModel" "rights" "[I" : Cond) ∈ lw_tbl := t7_in (List.mem_of_getElem? (i := 140) rfl)
set_option maxRecDepth 20000 in
theorem tw_1005 : (.methodLink RX12 547 yX12_row : Cond) ∈ lw_tbl := t9_in (List.mem_of_getElem? (i := 196) rfl)
set_option maxRecDepth 20000 in
theorem tw_1006 : (.instanceMethod yX12_row : Cond) ∈ lw_tbl := t9_in (List.mem_of_getElem? (i := 198) rfl)
set_option maxRecDepth 20000 in
theorem tw_1007 : (.selects RX12 yX12_row yX12_row : Cond) ∈ lw_tbl := sel7_in (List.mem_of_getElem? (i := 4) rfl)
set_option maxRecDepth 20000 in
theorem tw_1008 : (.code yX12_row cX12_row 3 (some .int) : Cond) ∈ lw_tbl := t9_in (List.mem_of_getElem? (i := 199) rfl)
set_option maxRecDepth 20000 in
theorem tw_1009 : (.methodLink RX12 567 yX12_isHandle : Cond) ∈ lw_tbl := t9_in (List.mem_of_getElem? (i := 188) rfl)
set_option maxRecDepth 20000 in
theorem tw_1010 : (.instanceMethod yX12_isHandle : Cond) ∈ lw_tbl := t9_in (List.mem_of_getElem? (i := 190) rfl)
set_option maxRecDepth 20000 in
theorem tw_1011 : (.selects RX12 yX12_isHandle yX12_isHandle : Cond) ∈ lw_tbl := sel7_in (List.mem_of_getElem? (i := 2) rfl)
set_option maxRecDepth 20000 in
theorem tw_1012 : (.code yX12_isHandle cX12_isHandle 3 (some .boolean) : Cond) ∈ lw_tbl := t9_in (List.mem_of_getElem? (i := 191) rfl)
set_option maxRecDepth 20000 in
theorem tw_1013 : (.fieldLink RX12 320 "LowEnergyModel" "attributes" "[I" : Cond) ∈ lw_tbl := t7_in (List.mem_of_getElem? (i := 138) rfl)
set_option maxRecDepth 20000 in
theorem tw_1014 : (.methodLink RX12 593 yX12_writing : Cond) ∈ lw_tbl := t10_in (List.mem_of_getElem? (i := 0) rfl)
set_option maxRecDepth 20000 in
theorem tw_1015 : (.instanceMethod yX12_writing : Cond) ∈ lw_tbl := t10_in (List.mem_of_getElem? (i := 2) rfl)
set_option maxRecDepth 20000 in
theorem tw_1016 : (.selects RX12 yX12_writing yX12_writing : Cond) ∈ lw_tbl := sel7_in (List.mem_of_getElem? (i := 15) rfl)
set_option maxRecDepth 20000 in
theorem tw_1017 : (.code yX12_writing cX12_writing 8 none : Cond) ∈ lw_tbl := t10_in (List.mem_of_getElem? (i := 3) rfl)
set_option maxRecDepth 20000 in
theorem tw_1018 : (.fieldLink RX12 350 "LowEnergyModel" "partHandle" "[I" : Cond) ∈ lw_tbl := t7_in (List.mem_of_getElem? (i := 148) rfl)
set_option maxRecDepth 20000 in
theorem tw_1019 : (.fieldLink RX12 353 "LowEnergyModel" "partPlace" "[I" : Cond) ∈ lw_tbl := t7_in (List.mem_of_getElem? (i := 149) rfl)
set_option maxRecDepth 20000 in
theorem tw_1020 : (.fieldLink RX12 356 "LowEnergyModel" "partMany" "[I" : Cond) ∈ lw_tbl := t7_in (List.mem_of_getElem? (i := 150) rfl)
set_option maxRecDepth 20000 in
theorem tw_1021 : (.fieldLink RX12 344 "LowEnergyModel" "partBytes" "[B" : Cond) ∈ lw_tbl := t7_in (List.mem_of_getElem? (i := 146) rfl)
set_option maxRecDepth 20000 in
theorem tw_1022 : (.methodLink RX12 574 yX12_writes : Cond) ∈ lw_tbl := t9_in (List.mem_of_getElem? (i := 200) rfl)
set_option maxRecDepth 20000 in
theorem tw_1023 : (.instanceMethod yX12_writes : Cond) ∈ lw_tbl := t9_in (List.mem_of_getElem? (i := 202) rfl)
set_option maxRecDepth 20000 in
theorem tw_1024 : (.selects RX12 yX12_writes yX12_writes : Cond) ∈ lw_tbl := sel7_in (List.mem_of_getElem? (i := 5) rfl)
set_option maxRecDepth 20000 in
theorem tw_1025 : (.code yX12_writes cX12_writes 4 none : Cond) ∈ lw_tbl := t9_in (List.mem_of_getElem? (i := 203) rfl)
set_option maxRecDepth 20000 in
theorem tw_1026 : (.methodLink RX12 587 yX12_executes : Cond) ∈ lw_tbl := t9_in (List.mem_of_getElem? (i := 232) rfl)
set_option maxRecDepth 20000 in
theorem tw_1027 : (.instanceMethod yX12_executes : Cond) ∈ lw_tbl := t9_in (List.mem_of_getElem? (i := 234) rfl)
set_option maxRecDepth 20000 in
theorem tw_1028 : (.selects RX12 yX12_executes yX12_executes : Cond) ∈ lw_tbl := sel7_in (List.mem_of_getElem? (i := 13) rfl)
set_option maxRecDepth 20000 in
theorem tw_1029 : (.code yX12_executes cX12_executes 9 none : Cond) ∈ lw_tbl := t9_in (List.mem_of_getElem? (i := 235) rfl)
set_option maxRecDepth 20000 in
theorem tw_1030 : (.fieldLink RX12 359 "LowEnergyModel" "trialLength" "[I" : Cond) ∈ lw_tbl := t7_in (List.mem_of_getElem? (i := 151) rfl)
set_option maxRecDepth 20000 in
theorem tw_1031 : (.fieldLink RX12 347 "LowEnergyModel" "trial" "[B" : Cond) ∈ lw_tbl := t7_in (List.mem_of_getElem? (i := 147) rfl)
set_option maxRecDepth 20000 in
theorem tw_1032 : (.methodLink RX12 596 Lib.Math.max.name : Cond) ∈ lw_tbl := t9_in (List.mem_of_getElem? (i := 156) rfl)
set_option maxRecDepth 20000 in
theorem tw_1033 : (.methodLink RX12 584 yX12_mtus : Cond) ∈ lw_tbl := t9_in (List.mem_of_getElem? (i := 228) rfl)
set_option maxRecDepth 20000 in
theorem tw_1034 : (.instanceMethod yX12_mtus : Cond) ∈ lw_tbl := t9_in (List.mem_of_getElem? (i := 230) rfl)
set_option maxRecDepth 20000 in
theorem tw_1035 : (.selects RX12 yX12_mtus yX12_mtus : Cond) ∈ lw_tbl := sel7_in (List.mem_of_getElem? (i := 12) rfl)
set_option maxRecDepth 20000 in
theorem tw_1036 : (.code yX12_mtus cX12_mtus 3 none : Cond) ∈ lw_tbl := t9_in (List.mem_of_getElem? (i := 231) rfl)
set_option maxRecDepth 20000 in
theorem tw_1037 : (.fieldLink RX12 335 "LowEnergyModel" "ownMtu" "[I" : Cond) ∈ lw_tbl := t7_in (List.mem_of_getElem? (i := 143) rfl)
set_option maxRecDepth 20000 in
theorem tw_1038 : (.methodLink RX12 581 yX12_lists : Cond) ∈ lw_tbl := t9_in (List.mem_of_getElem? (i := 216) rfl)
set_option maxRecDepth 20000 in
theorem tw_1039 : (.instanceMethod yX12_lists : Cond) ∈ lw_tbl := t9_in (List.mem_of_getElem? (i := 218) rfl)
set_option maxRecDepth 20000 in
theorem tw_1040 : (.selects RX12 yX12_lists yX12_lists : Cond) ∈ lw_tbl := sel7_in (List.mem_of_getElem? (i := 9) rfl)
set_option maxRecDepth 20000 in
theorem tw_1041 : (.code yX12_lists cX12_lists 16 none : Cond) ∈ lw_tbl := t9_in (List.mem_of_getElem? (i := 219) rfl)
set_option maxRecDepth 20000 in
theorem tw_1042 : (.methodLink RX12 603 yX12_endOf : Cond) ∈ lw_tbl := t9_in (List.mem_of_getElem? (i := 224) rfl)
set_option maxRecDepth 20000 in
theorem tw_1043 : (.instanceMethod yX12_endOf : Cond) ∈ lw_tbl := t9_in (List.mem_of_getElem? (i := 226) rfl)
set_option maxRecDepth 20000 in
theorem tw_1044 : (.selects RX12 yX12_endOf yX12_endOf : Cond) ∈ lw_tbl := sel7_in (List.mem_of_getElem? (i := 11) rfl)
set_option maxRecDepth 20000 in
theorem tw_1045 : (.code yX12_endOf cX12_endOf 4 (some .int) : Cond) ∈ lw_tbl := t9_in (List.mem_of_getElem? (i := 227) rfl)
set_option maxRecDepth 20000 in
theorem tw_1046 : (.fieldLink RX12 323 "LowEnergyModel" "type" "[I" : Cond) ∈ lw_tbl := t7_in (List.mem_of_getElem? (i := 139) rfl)
set_option maxRecDepth 20000 in
theorem tw_1047 : (.methodLink RX12 599 yX12_isValue : Cond) ∈ lw_tbl := t9_in (List.mem_of_getElem? (i := 220) rfl)
set_option maxRecDepth 20000 in
theorem tw_1048 : (.instanceMethod yX12_isValue : Cond) ∈ lw_tbl := t9_in (List.mem_of_getElem? (i := 222) rfl)
set_option maxRecDepth 20000 in
theorem tw_1049 : (.selects RX12 yX12_isValue yX12_isValue : Cond) ∈ lw_tbl := sel7_in (List.mem_of_getElem? (i := 10) rfl)
set_option maxRecDepth 20000 in
theorem tw_1050 : (.code yX12_isValue cX12_isValue 8 (some .boolean) : Cond) ∈ lw_tbl := t9_in (List.mem_of_getElem? (i := 223) rfl)
set_option maxRecDepth 20000 in
theorem tw_1051 : (.methodLink RX12 489 yX12_two : Cond) ∈ lw_tbl := t9_in (List.mem_of_getElem? (i := 12) rfl)
set_option maxRecDepth 20000 in
theorem tw_1052 : (.static yX12_two : Cond) ∈ lw_tbl := t9_in (List.mem_of_getElem? (i := 13) rfl)
set_option maxRecDepth 20000 in
theorem tw_1053 : (.code yX12_two cX12_two 2 (some .int) : Cond) ∈ lw_tbl := t9_in (List.mem_of_getElem? (i := 14) rfl)
set_option maxRecDepth 20000 in
theorem tw_1054 : (.methodLink RX12 577 yX12_hasBytes : Cond) ∈ lw_tbl := t9_in (List.mem_of_getElem? (i := 208) rfl)
set_option maxRecDepth 20000 in
theorem tw_1055 : (.instanceMethod yX12_hasBytes : Cond) ∈ lw_tbl := t9_in (List.mem_of_getElem? (i := 210) rfl)
set_option maxRecDepth 20000 in
theorem tw_1056 : (.selects RX12 yX12_hasBytes yX12_hasBytes : Cond) ∈ lw_tbl := sel7_in (List.mem_of_getElem? (i := 7) rfl)
set_option maxRecDepth 20000 in
theorem tw_1057 : (.code yX12_hasBytes cX12_hasBytes 4 (some .boolean) : Cond) ∈ lw_tbl := t9_in (List.mem_of_getElem? (i := 211) rfl)
set_option maxRecDepth 20000 in
theorem tw_1058 : (.methodLink RX12 556 yX12_toldOf : Cond) ∈ lw_tbl := t9_in (List.mem_of_getElem? (i := 180) rfl)
set_option maxRecDepth 20000 in
theorem tw_1059 : (.instanceMethod yX12_toldOf : Cond) ∈ lw_tbl := t9_in (List.mem_of_getElem? (i := 182) rfl)
set_option maxRecDepth 20000 in
theorem tw_1060 : (.selects RX12 yX12_toldOf yX12_toldOf : Cond) ∈ lw_tbl := sel7_in (List.mem_of_getElem? (i := 0) rfl)
set_option maxRecDepth 20000 in
theorem tw_1061 : (.code yX12_toldOf cX12_toldOf 4 none : Cond) ∈ lw_tbl := t9_in (List.mem_of_getElem? (i := 183) rfl)
set_option maxRecDepth 20000 in
theorem tw_1062 : (.methodLink RX12 559 yX12_writesAlone : Cond) ∈ lw_tbl := t9_in (List.mem_of_getElem? (i := 184) rfl)
set_option maxRecDepth 20000 in
theorem tw_1063 : (.instanceMethod yX12_writesAlone : Cond) ∈ lw_tbl := t9_in (List.mem_of_getElem? (i := 186) rfl)
set_option maxRecDepth 20000 in
theorem tw_1064 : (.selects RX12 yX12_writesAlone yX12_writesAlone : Cond) ∈ lw_tbl := sel7_in (List.mem_of_getElem? (i := 1) rfl)
set_option maxRecDepth 20000 in
theorem tw_1065 : (.code yX12_writesAlone cX12_writesAlone 4 none : Cond) ∈ lw_tbl := t9_in (List.mem_of_getElem? (i := 187) rfl)
set_option maxRecDepth 20000 in
theorem tw_1066 : (.methodLink RX12 553 yX12_confirmed : Cond) ∈ lw_tbl := t9_in (List.mem_of_getElem? (i := 176) rfl)
set_option maxRecDepth 20000 in
theorem tw_1067 : (.instanceMethod yX12_confirmed : Cond) ∈ lw_tbl := t9_in (List.mem_of_getElem? (i := 178) rfl)
set_option maxRecDepth 20000 in
theorem tw_1068 : (.selects RX12 yX12_confirmed yX12_confirmed : Cond) ∈ lw_tbl := sel6_in (List.mem_of_getElem? (i := 15) rfl)
set_option maxRecDepth 20000 in
theorem tw_1069 : (.code yX12_confirmed cX12_confirmed 3 none : Cond) ∈ lw_tbl := t9_in (List.mem_of_getElem? (i := 179) rfl)
set_option maxRecDepth 20000 in
theorem tw_1070 : (.methodLink RX12 550 yX12_answered : Cond) ∈ lw_tbl := t9_in (List.mem_of_getElem? (i := 141) rfl)
set_option maxRecDepth 20000 in
theorem tw_1071 : (.instanceMethod yX12_answered : Cond) ∈ lw_tbl := t9_in (List.mem_of_getElem? (i := 143) rfl)
set_option maxRecDepth 20000 in
theorem tw_1072 : (.selects RX12 yX12_answered yX12_answered : Cond) ∈ lw_tbl := sel6_in (List.mem_of_getElem? (i := 8) rfl)
set_option maxRecDepth 20000 in
theorem tw_1073 : (.code yX12_answered cX12_answered 6 none : Cond) ∈ lw_tbl := t9_in (List.mem_of_getElem? (i := 144) rfl)
set_option maxRecDepth 20000 in
theorem tw_1074 : (.fieldLink RX12 377 "LowEnergyModel" "place" "[I" : Cond) ∈ lw_tbl := t7_in (List.mem_of_getElem? (i := 157) rfl)
set_option maxRecDepth 20000 in
theorem tw_1075 : (.fieldLink RX12 380 "LowEnergyModel" "jobMany" "[I" : Cond) ∈ lw_tbl := t7_in (List.mem_of_getElem? (i := 158) rfl)
set_option maxRecDepth 20000 in
theorem tw_1076 : (.fieldLink RX12 368 "LowEnergyModel" "jobA" "[I" : Cond) ∈ lw_tbl := t7_in (List.mem_of_getElem? (i := 154) rfl)
set_option maxRecDepth 20000 in
theorem tw_1077 : (.fieldLink RX12 383 "LowEnergyModel" "jobBytes" "[B" : Cond) ∈ lw_tbl := t7_in (List.mem_of_getElem? (i := 159) rfl)
set_option maxRecDepth 20000 in
theorem tw_1078 : (.methodLink RX12 621 yX12_ends : Cond) ∈ lw_tbl := t9_in (List.mem_of_getElem? (i := 145) rfl)
set_option maxRecDepth 20000 in
theorem tw_1079 : (.instanceMethod yX12_ends : Cond) ∈ lw_tbl := t9_in (List.mem_of_getElem? (i := 147) rfl)
set_option maxRecDepth 20000 in
theorem tw_1080 : (.selects RX12 yX12_ends yX12_ends : Cond) ∈ lw_tbl := sel6_in (List.mem_of_getElem? (i := 9) rfl)
set_option maxRecDepth 20000 in
theorem tw_1081 : (.code yX12_ends cX12_ends 3 none : Cond) ∈ lw_tbl := t9_in (List.mem_of_getElem? (i := 148) rfl)
set_option maxRecDepth 20000 in
theorem tw_1082 : (.methodLink RX12 630 yX12_asksFor : Cond) ∈ lw_tbl := t9_in (List.mem_of_getElem? (i := 161) rfl)
set_option maxRecDepth 20000 in
theorem tw_1083 : (.instanceMethod yX12_asksFor : Cond) ∈ lw_tbl := t9_in (List.mem_of_getElem? (i := 163) rfl)
set_option maxRecDepth 20000 in
theorem tw_1084 : (.selects RX12 yX12_asksFor yX12_asksFor : Cond) ∈ lw_tbl := sel6_in (List.mem_of_getElem? (i := 12) rfl)
set_option maxRecDepth 20000 in
theorem tw_1085 : (.code yX12_asksFor cX12_asksFor 3 none : Cond) ∈ lw_tbl := t9_in (List.mem_of_getElem? (i := 164) rfl)
set_option maxRecDepth 20000 in
theorem tw_1086 : (.methodLink RX12 606 yX12_request : Cond) ∈ lw_tbl := t9_in (List.mem_of_getElem? (i := 165) rfl)
set_option maxRecDepth 20000 in
theorem tw_1087 : (.instanceMethod yX12_request : Cond) ∈ lw_tbl := t9_in (List.mem_of_getElem? (i := 167) rfl)
set_option maxRecDepth 20000 in
theorem tw_1088 : (.selects RX12 yX12_request yX12_request : Cond) ∈ lw_tbl := sel6_in (List.mem_of_getElem? (i := 13) rfl)
set_option maxRecDepth 20000 in
theorem tw_1089 : (.code yX12_request cX12_request 4 none : Cond) ∈ lw_tbl := t9_in (List.mem_of_getElem? (i := 168) rfl)
set_option maxRecDepth 20000 in
theorem tw_1090 : (.fieldLink RX12 374 "LowEnergyModel" "due" "[I" : Cond) ∈ lw_tbl := t7_in (List.mem_of_getElem? (i := 156) rfl)
set_option maxRecDepth 20000 in
theorem tw_1091 : (.constantLong RX12 609 (65535) : Cond) ∈ lw_tbl := t9_in (List.mem_of_getElem? (i := 169) rfl)
set_option maxRecDepth 20000 in
theorem tw_1092 : (.constantLong RX12 611 (10240) : Cond) ∈ lw_tbl := t9_in (List.mem_of_getElem? (i := 170) rfl)
set_option maxRecDepth 20000 in
theorem tw_1093 : (.fieldLink RX12 371 "LowEnergyModel" "jobB" "[I" : Cond) ∈ lw_tbl := t7_in (List.mem_of_getElem? (i := 155) rfl)
set_option maxRecDepth 20000 in
theorem tw_1094 : (.constantLong RX12 613 (10243) : Cond) ∈ lw_tbl := t9_in (List.mem_of_getElem? (i := 171) rfl)
set_option maxRecDepth 20000 in
theorem tw_1095 : (.methodLink RX12 615 yX12_asksToWrite : Cond) ∈ lw_tbl := t9_in (List.mem_of_getElem? (i := 172) rfl)
set_option maxRecDepth 20000 in
theorem tw_1096 : (.instanceMethod yX12_asksToWrite : Cond) ∈ lw_tbl := t9_in (List.mem_of_getElem? (i := 174) rfl)
set_option maxRecDepth 20000 in
theorem tw_1097 : (.selects RX12 yX12_asksToWrite yX12_asksToWrite : Cond) ∈ lw_tbl := sel6_in (List.mem_of_getElem? (i := 14) rfl)
set_option maxRecDepth 20000 in
theorem tw_1098 : (.code yX12_asksToWrite cX12_asksToWrite 3 none : Cond) ∈ lw_tbl := t9_in (List.mem_of_getElem? (i := 175) rfl)
set_option maxRecDepth 20000 in
theorem tw_1099 : (.methodLink RX12 624 yX12_isAnswer : Cond) ∈ lw_tbl := t9_in (List.mem_of_getElem? (i := 149) rfl)
set_option maxRecDepth 20000 in
theorem tw_1100 : (.instanceMethod yX12_isAnswer : Cond) ∈ lw_tbl := t9_in (List.mem_of_getElem? (i := 151) rfl)
set_option maxRecDepth 20000 in
theorem tw_1101 : (.selects RX12 yX12_isAnswer yX12_isAnswer : Cond) ∈ lw_tbl := sel6_in (List.mem_of_getElem? (i := 10) rfl)
set_option maxRecDepth 20000 in
theorem tw_1102 : (.code yX12_isAnswer cX12_isAnswer 3 (some .boolean) : Cond) ∈ lw_tbl := t9_in (List.mem_of_getElem? (i := 152) rfl)
set_option maxRecDepth 20000 in
theorem tw_1103 : (.methodLink RX12 618 yX12_areRows : Cond) ∈ lw_tbl := t9_in (List.mem_of_getElem? (i := 153) rfl)
set_option maxRecDepth 20000 in
theorem tw_1104 : (.static yX12_areRows : Cond) ∈ lw_tbl := t9_in (List.mem_of_getElem? (i := 154) rfl)
set_option maxRecDepth 20000 in
theorem tw_1105 : (.code yX12_areRows cX12_areRows 4 (some .boolean) : Cond) ∈ lw_tbl := t9_in (List.mem_of_getElem? (i := 155) rfl)
set_option maxRecDepth 20000 in
theorem tw_1106 : (.methodLink RX12 627 yX12_rows : Cond) ∈ lw_tbl := t9_in (List.mem_of_getElem? (i := 157) rfl)
set_option maxRecDepth 20000 in
theorem tw_1107 : (.instanceMethod yX12_rows : Cond) ∈ lw_tbl := t9_in (List.mem_of_getElem? (i := 159) rfl)
set_option maxRecDepth 20000 in
theorem tw_1108 : (.selects RX12 yX12_rows yX12_rows : Cond) ∈ lw_tbl := sel6_in (List.mem_of_getElem? (i := 11) rfl)
set_option maxRecDepth 20000 in
theorem tw_1109 : (.code yX12_rows cX12_rows 11 none : Cond) ∈ lw_tbl := t9_in (List.mem_of_getElem? (i := 160) rfl)
set_option maxRecDepth 20000 in
theorem tw_1110 : (.methodLink RX12 522 yX12_pairs : Cond) ∈ lw_tbl := t9_in (List.mem_of_getElem? (i := 109) rfl)
set_option maxRecDepth 20000 in
theorem tw_1111 : (.instanceMethod yX12_pairs : Cond) ∈ lw_tbl := t9_in (List.mem_of_getElem? (i := 111) rfl)
set_option maxRecDepth 20000 in
theorem tw_1112 : (.selects RX12 yX12_pairs yX12_pairs : Cond) ∈ lw_tbl := sel6_in (List.mem_of_getElem? (i := 0) rfl)
set_option maxRecDepth 20000 in
theorem tw_1113 : (.code yX12_pairs cX12_pairs 8 none : Cond) ∈ lw_tbl := t9_in (List.mem_of_getElem? (i := 112) rfl)
set_option maxRecDepth 20000 in
theorem tw_1114 : (.methodLink RX12 531 yX12_fails : Cond) ∈ lw_tbl := t9_in (List.mem_of_getElem? (i := 113) rfl)
set_option maxRecDepth 20000 in
theorem tw_1115 : (.instanceMethod yX12_fails : Cond) ∈ lw_tbl := t9_in (List.mem_of_getElem? (i := 115) rfl)
set_option maxRecDepth 20000 in
theorem tw_1116 : (.selects RX12 yX12_fails yX12_fails : Cond) ∈ lw_tbl := sel6_in (List.mem_of_getElem? (i := 1) rfl)
set_option maxRecDepth 20000 in
theorem tw_1117 : (.code yX12_fails cX12_fails 4 none : Cond) ∈ lw_tbl := t9_in (List.mem_of_getElem? (i := 116) rfl)
set_option maxRecDepth 20000 in
theorem tw_1118 : (.fieldLink RX12 317 "LowEnergyModel" "pair" "[B" : Cond) ∈ lw_tbl := t7_in (List.mem_of_getElem? (i := 137) rfl)
set_option maxRecDepth 20000 in
theorem tw_1119 : (.fieldLink RX12 311 "LowEnergyModel" "ownRandom" "[B" : Cond) ∈ lw_tbl := t7_in (List.mem_of_getElem? (i := 135) rfl)
set_option maxRecDepth 20000 in
theorem tw_1120 : (.fieldLink RX12 314 "LowEnergyModel" "tkRow" "[B" : Cond) ∈ lw_tbl := t7_in (List.mem_of_getElem? (i := 136) rfl)
set_option maxRecDepth 20000 in
theorem tw_1121 : (.fieldLink RX12 206 "LowEnergyModel" "key" "[B" : Cond) ∈ lw_tbl := t7_in (List.mem_of_getElem? (i := 100) rfl)
set_option maxRecDepth 20000 in
theorem tw_1122 : (.fieldLink RX12 245 "LowEnergyModel" "hasKey" "[Z" : Cond) ∈ lw_tbl := t7_in (List.mem_of_getElem? (i := 113) rfl)
set_option maxRecDepth 20000 in
theorem tw_1123 : (.methodLink RX12 540 yX12_saysRow : Cond) ∈ lw_tbl := t9_in (List.mem_of_getElem? (i := 133) rfl)
set_option maxRecDepth 20000 in
theorem tw_1124 : (.instanceMethod yX12_saysRow : Cond) ∈ lw_tbl := t9_in (List.mem_of_getElem? (i := 135) rfl)
set_option maxRecDepth 20000 in
theorem tw_1125 : (.selects RX12 yX12_saysRow yX12_saysRow : Cond) ∈ lw_tbl := sel6_in (List.mem_of_getElem? (i := 6) rfl)
set_option maxRecDepth 20000 in
theorem tw_1126 : (.code yX12_saysRow cX12_saysRow 5 none : Cond) ∈ lw_tbl := t9_in (List.mem_of_getElem? (i := 136) rfl)
set_option maxRecDepth 20000 in
theorem tw_1127 : (.fieldLink RX12 308 "LowEnergyModel" "confirm" "[B" : Cond) ∈ lw_tbl := t7_in (List.mem_of_getElem? (i := 134) rfl)
set_option maxRecDepth 20000 in
theorem tw_1128 : (.methodLink RX12 544 yX12_c : Cond) ∈ lw_tbl := t9_in (List.mem_of_getElem? (i := 129) rfl)
set_option maxRecDepth 20000 in
theorem tw_1129 : (.instanceMethod yX12_c : Cond) ∈ lw_tbl := t9_in (List.mem_of_getElem? (i := 131) rfl)
set_option maxRecDepth 20000 in
theorem tw_1130 : (.selects RX12 yX12_c yX12_c : Cond) ∈ lw_tbl := sel6_in (List.mem_of_getElem? (i := 5) rfl)
set_option maxRecDepth 20000 in
theorem tw_1131 : (.code yX12_c cX12_c 9 none : Cond) ∈ lw_tbl := t9_in (List.mem_of_getElem? (i := 132) rfl)
set_option maxRecDepth 20000 in
theorem tw_1132 : (.fieldLink RX12 60 "LowEnergyModel" "address" "[J" : Cond) ∈ lw_tbl := t7_in (List.mem_of_getElem? (i := 50) rfl)
set_option maxRecDepth 20000 in
theorem tw_1133 : (.fieldLink RX12 64 "LowEnergyModel" "peer" "[J" : Cond) ∈ lw_tbl := t7_in (List.mem_of_getElem? (i := 51) rfl)
set_option maxRecDepth 20000 in
theorem tw_1134 : (.fieldLink RX12 305 "LowEnergyModel" "firstTwo" "[B" : Cond) ∈ lw_tbl := t7_in (List.mem_of_getElem? (i := 133) rfl)
set_option maxRecDepth 20000 in
theorem tw_1135 : (.fieldLink RX12 302 "LowEnergyModel" "tk" "[I" : Cond) ∈ lw_tbl := t7_in (List.mem_of_getElem? (i := 132) rfl)
set_option maxRecDepth 20000 in
theorem tw_1136 : (.methodLink RX12 537 yX12_tells : Cond) ∈ lw_tbl := t9_in (List.mem_of_getElem? (i := 125) rfl)
set_option maxRecDepth 20000 in
theorem tw_1137 : (.instanceMethod yX12_tells : Cond) ∈ lw_tbl := t9_in (List.mem_of_getElem? (i := 127) rfl)
set_option maxRecDepth 20000 in
theorem tw_1138 : (.selects RX12 yX12_tells yX12_tells : Cond) ∈ lw_tbl := sel6_in (List.mem_of_getElem? (i := 4) rfl)
set_option maxRecDepth 20000 in
theorem tw_1139 : (.code yX12_tells cX12_tells 3 none : Cond) ∈ lw_tbl := t9_in (List.mem_of_getElem? (i := 128) rfl)
set_option maxRecDepth 20000 in
theorem tw_1140 : (.methodLink RX12 480 yX12_draw : Cond) ∈ lw_tbl := t8_in (List.mem_of_getElem? (i := 192) rfl)
set_option maxRecDepth 20000 in
theorem tw_1141 : (.instanceMethod yX12_draw : Cond) ∈ lw_tbl := t8_in (List.mem_of_getElem? (i := 194) rfl)
set_option maxRecDepth 20000 in
theorem tw_1142 : (.selects RX12 yX12_draw yX12_draw : Cond) ∈ lw_tbl := sel4_in (List.mem_of_getElem? (i := 2) rfl)
set_option maxRecDepth 20000 in
theorem tw_1143 : (.code yX12_draw cX12_draw 2 (some .int) : Cond) ∈ lw_tbl := t8_in (List.mem_of_getElem? (i := 195) rfl)
set_option maxRecDepth 20000 in
theorem tw_1144 : (.constant RX12 395 (1103515245) : Cond) ∈ lw_tbl := t8_in (List.mem_of_getElem? (i := 196) rfl)
set_option maxRecDepth 20000 in
theorem tw_1145 : (.fieldLink RX12 299 "LowEnergyModel" "passkey" "[I" : Cond) ∈ lw_tbl := t7_in (List.mem_of_getElem? (i := 131) rfl)
set_option maxRecDepth 20000 in
theorem tw_1146 : (.methodLink RX12 534 yX12_saysFirst : Cond) ∈ lw_tbl := t9_in (List.mem_of_getElem? (i := 121) rfl)
set_option maxRecDepth 20000 in
theorem tw_1147 : (.instanceMethod yX12_saysFirst : Cond) ∈ lw_tbl := t9_in (List.mem_of_getElem? (i := 123) rfl)
set_option maxRecDepth 20000 in
theorem tw_1148 : (.selects RX12 yX12_saysFirst yX12_saysFirst : Cond) ∈ lw_tbl := sel6_in (List.mem_of_getElem? (i := 3) rfl)
set_option maxRecDepth 20000 in
theorem tw_1149 : (.code yX12_saysFirst cX12_saysFirst 3 none : Cond) ∈ lw_tbl := t9_in (List.mem_of_getElem? (i := 124) rfl)
set_option maxRecDepth 20000 in
theorem tw_1150 : (.fieldLink RX12 281 "LowEnergyModel" "wholeMany" "[I" : Cond) ∈ lw_tbl := t7_in (List.mem_of_getElem? (i := 125) rfl)
set_option maxRecDepth 20000 in
theorem tw_1151 : (.fieldLink RX12 284 "LowEnergyModel" "wholeAll" "[I" : Cond) ∈ lw_tbl := t7_in (List.mem_of_getElem? (i := 126) rfl)
set_option maxRecDepth 20000 in
theorem tw_1152 : (.fieldLink RX12 263 "LowEnergyModel" "came" "[B" : Cond) ∈ lw_tbl := t7_in (List.mem_of_getElem? (i := 119) rfl)
set_option maxRecDepth 20000 in
theorem tw_1153 : (.methodLink RX12 473 yX12_controlled : Cond) ∈ lw_tbl := t9_in (List.mem_of_getElem? (i := 68) rfl)
set_option maxRecDepth 20000 in
theorem tw_1154 : (.instanceMethod yX12_controlled : Cond) ∈ lw_tbl := t9_in (List.mem_of_getElem? (i := 70) rfl)
set_option maxRecDepth 20000 in
theorem tw_1155 : (.selects RX12 yX12_controlled yX12_controlled : Cond) ∈ lw_tbl := sel5_in (List.mem_of_getElem? (i := 7) rfl)
set_option maxRecDepth 20000 in
theorem tw_1156 : (.code yX12_controlled cX12_controlled 8 none : Cond) ∈ lw_tbl := t9_in (List.mem_of_getElem? (i := 71) rfl)
set_option maxRecDepth 20000 in
theorem tw_1157 : (.fieldLink RX12 73 "LowEnergyModel" "newMap" "[J" : Cond) ∈ lw_tbl := t7_in (List.mem_of_getElem? (i := 54) rfl)
set_option maxRecDepth 20000 in
theorem tw_1158 : (.methodLink RX12 494 yX12_number_ : Cond) ∈ lw_tbl := t8_in (List.mem_of_getElem? (i := 232) rfl)
set_option maxRecDepth 20000 in
theorem tw_1159 : (.static yX12_number_ : Cond) ∈ lw_tbl := t8_in (List.mem_of_getElem? (i := 233) rfl)
set_option maxRecDepth 20000 in
theorem tw_1160 : (.code yX12_number_ cX12_number_ 6 (some .long) : Cond) ∈ lw_tbl := t8_in (List.mem_of_getElem? (i := 234) rfl)
set_option maxRecDepth 20000 in
theorem tw_1161 : (.fieldLink RX12 139 "LowEnergyModel" "instant" "[I" : Cond) ∈ lw_tbl := t7_in (List.mem_of_getElem? (i := 76) rfl)
set_option maxRecDepth 20000 in
theorem tw_1162 : (.methodLink RX12 501 yX12_ciphers : Cond) ∈ lw_tbl := t9_in (List.mem_of_getElem? (i := 84) rfl)
set_option maxRecDepth 20000 in
theorem tw_1163 : (.instanceMethod yX12_ciphers : Cond) ∈ lw_tbl := t9_in (List.mem_of_getElem? (i := 86) rfl)
set_option maxRecDepth 20000 in
theorem tw_1164 : (.selects RX12 yX12_ciphers yX12_ciphers : Cond) ∈ lw_tbl := sel5_in (List.mem_of_getElem? (i := 10) rfl)
set_option maxRecDepth 20000 in
theorem tw_1165 : (.code yX12_ciphers cX12_ciphers 3 none : Cond) ∈ lw_tbl := t9_in (List.mem_of_getElem? (i := 87) rfl)
set_option maxRecDepth 20000 in
theorem tw_1166 : (.methodLink RX12 486 yX12_adds_ : Cond) ∈ lw_tbl := t9_in (List.mem_of_getElem? (i := 75) rfl)
set_option maxRecDepth 20000 in
theorem tw_1167 : (.instanceMethod yX12_adds_ : Cond) ∈ lw_tbl := t9_in (List.mem_of_getElem? (i := 77) rfl)
set_option maxRecDepth 20000 in
theorem tw_1168 : (.selects RX12 yX12_adds_ yX12_adds_ : Cond) ∈ lw_tbl := sel5_in (List.mem_of_getElem? (i := 8) rfl)
set_option maxRecDepth 20000 in
theorem tw_1169 : (.code yX12_adds_ cX12_adds_ 5 none : Cond) ∈ lw_tbl := t9_in (List.mem_of_getElem? (i := 78) rfl)
set_option maxRecDepth 20000 in
theorem tw_1170 : (.fieldLink RX12 260 "LowEnergyModel" "pdu" "[B" : Cond) ∈ lw_tbl := t7_in (List.mem_of_getElem? (i := 118) rfl)
set_option maxRecDepth 20000 in
theorem tw_1171 : (.methodLink RX12 436 yX12_adds : Cond) ∈ lw_tbl := t9_in (List.mem_of_getElem? (i := 79) rfl)
set_option maxRecDepth 20000 in
theorem tw_1172 : (.instanceMethod yX12_adds : Cond) ∈ lw_tbl := t9_in (List.mem_of_getElem? (i := 81) rfl)
set_option maxRecDepth 20000 in
theorem tw_1173 : (.selects RX12 yX12_adds yX12_adds : Cond) ∈ lw_tbl := sel5_in (List.mem_of_getElem? (i := 9) rfl)
set_option maxRecDepth 20000 in
theorem tw_1174 : (.code yX12_adds cX12_adds 5 none : Cond) ∈ lw_tbl := t9_in (List.mem_of_getElem? (i := 82) rfl)
set_option maxRecDepth 20000 in
theorem tw_1175 : (.methodLink RX12 515 yX12_makesSession : Cond) ∈ lw_tbl := t9_in (List.mem_of_getElem? (i := 92) rfl)
set_option maxRecDepth 20000 in
theorem tw_1176 : (.instanceMethod yX12_makesSession : Cond) ∈ lw_tbl := t9_in (List.mem_of_getElem? (i := 94) rfl)
set_option maxRecDepth 20000 in
theorem tw_1177 : (.selects RX12 yX12_makesSession yX12_makesSession : Cond) ∈ lw_tbl := sel5_in (List.mem_of_getElem? (i := 12) rfl)
set_option maxRecDepth 20000 in
theorem tw_1178 : (.code yX12_makesSession cX12_makesSession 3 none : Cond) ∈ lw_tbl := t9_in (List.mem_of_getElem? (i := 95) rfl)
set_option maxRecDepth 20000 in
theorem tw_1179 : (.fieldLink RX12 218 "LowEnergyModel" "ownIv" "[B" : Cond) ∈ lw_tbl := t7_in (List.mem_of_getElem? (i := 104) rfl)
set_option maxRecDepth 20000 in
theorem tw_1180 : (.fieldLink RX12 215 "LowEnergyModel" "ownSkd" "[B" : Cond) ∈ lw_tbl := t7_in (List.mem_of_getElem? (i := 103) rfl)
set_option maxRecDepth 20000 in
theorem tw_1181 : (.methodLink RX12 512 yX12_draws : Cond) ∈ lw_tbl := t9_in (List.mem_of_getElem? (i := 88) rfl)
set_option maxRecDepth 20000 in
theorem tw_1182 : (.instanceMethod yX12_draws : Cond) ∈ lw_tbl := t9_in (List.mem_of_getElem? (i := 90) rfl)
set_option maxRecDepth 20000 in
theorem tw_1183 : (.selects RX12 yX12_draws yX12_draws : Cond) ∈ lw_tbl := sel5_in (List.mem_of_getElem? (i := 11) rfl)
set_option maxRecDepth 20000 in
theorem tw_1184 : (.code yX12_draws cX12_draws 3 none : Cond) ∈ lw_tbl := t9_in (List.mem_of_getElem? (i := 91) rfl)
set_option maxRecDepth 20000 in
theorem tw_1185 : (.methodLink RX12 519 yX12_addsDraws : Cond) ∈ lw_tbl := t9_in (List.mem_of_getElem? (i := 96) rfl)
set_option maxRecDepth 20000 in
theorem tw_1186 : (.instanceMethod yX12_addsDraws : Cond) ∈ lw_tbl := t9_in (List.mem_of_getElem? (i := 98) rfl)
set_option maxRecDepth 20000 in
theorem tw_1187 : (.selects RX12 yX12_addsDraws yX12_addsDraws : Cond) ∈ lw_tbl := sel5_in (List.mem_of_getElem? (i := 13) rfl)
set_option maxRecDepth 20000 in
theorem tw_1188 : (.code yX12_addsDraws cX12_addsDraws 3 none : Cond) ∈ lw_tbl := t9_in (List.mem_of_getElem? (i := 99) rfl)
set_option maxRecDepth 20000 in
theorem tw_1189 : (.fieldLink RX12 76 "LowEnergyModel" "features" "[J" : Cond) ∈ lw_tbl := t7_in (List.mem_of_getElem? (i := 55) rfl)
set_option maxRecDepth 20000 in
theorem tw_1190 : (.methodLink RX12 507 yX12_version : Cond) ∈ lw_tbl := t9_in (List.mem_of_getElem? (i := 100) rfl)
set_option maxRecDepth 20000 in
theorem tw_1191 : (.instanceMethod yX12_version : Cond) ∈ lw_tbl := t9_in (List.mem_of_getElem? (i := 102) rfl)
set_option maxRecDepth 20000 in
theorem tw_1192 : (.selects RX12 yX12_version yX12_version : Cond) ∈ lw_tbl := sel5_in (List.mem_of_getElem? (i := 14) rfl)
set_option maxRecDepth 20000 in
theorem tw_1193 : (.code yX12_version cX12_version 2 none : Cond) ∈ lw_tbl := t9_in (List.mem_of_getElem? (i := 103) rfl)
set_option maxRecDepth 20000 in
theorem tw_1194 : (.constantLong RX12 510 (258) : Cond) ∈ lw_tbl := t9_in (List.mem_of_getElem? (i := 104) rfl)
set_option maxRecDepth 20000 in
theorem tw_1195 : (.methodLink RX12 483 yX12_bytesOf : Cond) ∈ lw_tbl := t9_in (List.mem_of_getElem? (i := 72) rfl)
set_option maxRecDepth 20000 in
theorem tw_1196 : (.static yX12_bytesOf : Cond) ∈ lw_tbl := t9_in (List.mem_of_getElem? (i := 73) rfl)
set_option maxRecDepth 20000 in
theorem tw_1197 : (.code yX12_bytesOf cX12_bytesOf 1 (some .int) : Cond) ∈ lw_tbl := t9_in (List.mem_of_getElem? (i := 74) rfl)
set_option maxRecDepth 20000 in
theorem tw_1198 : (.methodLink RX12 666 yX12_hops : Cond) ∈ lw_tbl := t9_in (List.mem_of_getElem? (i := 24) rfl)
set_option maxRecDepth 20000 in
theorem tw_1199 : (.instanceMethod yX12_hops : Cond) ∈ lw_tbl := t9_in (List.mem_of_getElem? (i := 26) rfl)
set_option maxRecDepth 20000 in
theorem tw_1200 : (.selects RX12 yX12_hops yX12_hops : Cond) ∈ lw_tbl := sel4_in (List.mem_of_getElem? (i := 12) rfl)
set_option maxRecDepth 20000 in
theorem tw_1201 : (.code yX12_hops cX12_hops 4 none : Cond) ∈ lw_tbl := t9_in (List.mem_of_getElem? (i := 27) rfl)
set_option maxRecDepth 20000 in
theorem tw_1202 : (.fieldLink RX12 115 "LowEnergyModel" "u" "[I" : Cond) ∈ lw_tbl := t7_in (List.mem_of_getElem? (i := 68) rfl)
set_option maxRecDepth 20000 in
theorem tw_1203 : (.methodLink RX12 659 yX12_advertises : Cond) ∈ lw_tbl := t8_in (List.mem_of_getElem? (i := 188) rfl)
set_option maxRecDepth 20000 in
theorem tw_1204 : (.instanceMethod yX12_advertises : Cond) ∈ lw_tbl := t8_in (List.mem_of_getElem? (i := 190) rfl)
set_option maxRecDepth 20000 in
theorem tw_1205 : (.selects RX12 yX12_advertises yX12_advertises : Cond) ∈ lw_tbl := sel4_in (List.mem_of_getElem? (i := 1) rfl)
set_option maxRecDepth 20000 in
theorem tw_1206 : (.code yX12_advertises cX12_advertises 8 none : Cond) ∈ lw_tbl := t8_in (List.mem_of_getElem? (i := 191) rfl)
set_option maxRecDepth 20000 in
theorem tw_1207 : (.fieldLink RX12 633 "LowEnergyModel" "FIRST_ACCESS" "[B" : Cond) ∈ lw_tbl := t8_in (List.mem_of_getElem? (i := 207) rfl)
set_option maxRecDepth 20000 in
theorem tw_1208 : (.constant RX12 636 (5592405) : Cond) ∈ lw_tbl := t8_in (List.mem_of_getElem? (i := 209) rfl)
set_option maxRecDepth 20000 in
theorem tw_1209 : (.methodLink RX12 647 yX12_initiates : Cond) ∈ lw_tbl := t8_in (List.mem_of_getElem? (i := 235) rfl)
set_option maxRecDepth 20000 in
theorem tw_1210 : (.instanceMethod yX12_initiates : Cond) ∈ lw_tbl := t8_in (List.mem_of_getElem? (i := 237) rfl)
set_option maxRecDepth 20000 in
theorem tw_1211 : (.selects RX12 yX12_initiates yX12_initiates : Cond) ∈ lw_tbl := sel4_in (List.mem_of_getElem? (i := 7) rfl)
set_option maxRecDepth 20000 in
theorem tw_1212 : (.code yX12_initiates cX12_initiates 10 none : Cond) ∈ lw_tbl := t8_in (List.mem_of_getElem? (i := 238) rfl)
set_option maxRecDepth 20000 in
theorem tw_1213 : (.methodLink RX12 650 yX12_begins : Cond) ∈ lw_tbl := t8_in (List.mem_of_getElem? (i := 239) rfl)
set_option maxRecDepth 20000 in
theorem tw_1214 : (.instanceMethod yX12_begins : Cond) ∈ lw_tbl := t9_in (List.mem_of_getElem? (i := 1) rfl)
set_option maxRecDepth 20000 in
theorem tw_1215 : (.selects RX12 yX12_begins yX12_begins : Cond) ∈ lw_tbl := sel4_in (List.mem_of_getElem? (i := 8) rfl)
set_option maxRecDepth 20000 in
theorem tw_1216 : (.code yX12_begins cX12_begins 3 none : Cond) ∈ lw_tbl := t9_in (List.mem_of_getElem? (i := 2) rfl)
set_option maxRecDepth 20000 in
theorem tw_1217 : (.fieldLink RX12 88 "LowEnergyModel" "reports" "[I" : Cond) ∈ lw_tbl := t7_in (List.mem_of_getElem? (i := 59) rfl)
set_option maxRecDepth 20000 in
theorem tw_1218 : (.fieldLink RX12 79 "LowEnergyModel" "reported" "[J" : Cond) ∈ lw_tbl := t7_in (List.mem_of_getElem? (i := 56) rfl)
set_option maxRecDepth 20000 in
theorem tw_1219 : (.fieldLink RX12 91 "LowEnergyModel" "reportMany" "[I" : Cond) ∈ lw_tbl := t7_in (List.mem_of_getElem? (i := 60) rfl)
set_option maxRecDepth 20000 in
theorem tw_1220 : (.fieldLink RX12 85 "LowEnergyModel" "reportData" "[B" : Cond) ∈ lw_tbl := t7_in (List.mem_of_getElem? (i := 58) rfl)
set_option maxRecDepth 20000 in
theorem tw_1221 : (.methodLink RX12 637 yX12_sendsFirst : Cond) ∈ lw_tbl := t8_in (List.mem_of_getElem? (i := 197) rfl)
set_option maxRecDepth 20000 in
theorem tw_1222 : (.instanceMethod yX12_sendsFirst : Cond) ∈ lw_tbl := t8_in (List.mem_of_getElem? (i := 199) rfl)
set_option maxRecDepth 20000 in
theorem tw_1223 : (.selects RX12 yX12_sendsFirst yX12_sendsFirst : Cond) ∈ lw_tbl := sel4_in (List.mem_of_getElem? (i := 3) rfl)
set_option maxRecDepth 20000 in
theorem tw_1224 : (.code yX12_sendsFirst cX12_sendsFirst 3 (some .int) : Cond) ∈ lw_tbl := t8_in (List.mem_of_getElem? (i := 200) rfl)
set_option maxRecDepth 20000 in
theorem tw_1225 : (.methodLink RL 75 yX11_noise : Cond) ∈ lw_tbl := t3_in (List.mem_of_getElem? (i := 172) rfl)
set_option maxRecDepth 20000 in
theorem tw_1226 : (.instanceMethod yX11_noise : Cond) ∈ lw_tbl := t3_in (List.mem_of_getElem? (i := 173) rfl)
set_option maxRecDepth 20000 in
theorem tw_1227 : (.selects RX11 yX11_noise yX11_noise : Cond) ∈ lw_tbl := t3_in (List.mem_of_getElem? (i := 174) rfl)
set_option maxRecDepth 20000 in
theorem tw_1228 : (.code yX11_noise cX11_noise 3 (some .boolean) : Cond) ∈ lw_tbl := t3_in (List.mem_of_getElem? (i := 175) rfl)
set_option maxRecDepth 20000 in
theorem tw_1229 : (.methodLink RX11 103 yX0_disturbNext : Cond) ∈ lw_tbl := t3_in (List.mem_of_getElem? (i := 176) rfl)
set_option maxRecDepth 20000 in
theorem tw_1230 : (.instanceMethod yX0_disturbNext : Cond) ∈ lw_tbl := t3_in (List.mem_of_getElem? (i := 177) rfl)
set_option maxRecDepth 20000 in
theorem tw_1231 : (.selects RX0 yX0_disturbNext yX0_disturbNext : Cond) ∈ lw_tbl := t3_in (List.mem_of_getElem? (i := 178) rfl)
set_option maxRecDepth 20000 in
theorem tw_1232 : (.code yX0_disturbNext cX0_disturbNext 3 (some .boolean) : Cond) ∈ lw_tbl := t3_in (List.mem_of_getElem? (i := 179) rfl)
set_option maxRecDepth 20000 in
theorem tw_1233 : (.methodLink RL 78 yX12_noise : Cond) ∈ lw_tbl := t10_in (List.mem_of_getElem? (i := 32) rfl)
set_option maxRecDepth 20000 in
theorem tw_1234 : (.instanceMethod yX12_noise : Cond) ∈ lw_tbl := t10_in (List.mem_of_getElem? (i := 33) rfl)
set_option maxRecDepth 20000 in
theorem tw_1235 : (.selects RX12 yX12_noise yX12_noise : Cond) ∈ lw_tbl := t10_in (List.mem_of_getElem? (i := 34) rfl)
set_option maxRecDepth 20000 in
theorem tw_1236 : (.code yX12_noise cX12_noise 3 (some .boolean) : Cond) ∈ lw_tbl := t10_in (List.mem_of_getElem? (i := 35) rfl)
set_option maxRecDepth 20000 in
theorem tw_1237 : (.methodLink RL 79 yX11_lose : Cond) ∈ lw_tbl := t3_in (List.mem_of_getElem? (i := 180) rfl)
set_option maxRecDepth 20000 in
theorem tw_1238 : (.instanceMethod yX11_lose : Cond) ∈ lw_tbl := t3_in (List.mem_of_getElem? (i := 181) rfl)
set_option maxRecDepth 20000 in
theorem tw_1239 : (.selects RX11 yX11_lose yX11_lose : Cond) ∈ lw_tbl := t3_in (List.mem_of_getElem? (i := 182) rfl)
set_option maxRecDepth 20000 in
theorem tw_1240 : (.code yX11_lose cX11_lose 3 (some .boolean) : Cond) ∈ lw_tbl := t3_in (List.mem_of_getElem? (i := 183) rfl)
set_option maxRecDepth 20000 in
theorem tw_1241 : (.methodLink RX11 107 yX0_loseNext : Cond) ∈ lw_tbl := t3_in (List.mem_of_getElem? (i := 184) rfl)
set_option maxRecDepth 20000 in
theorem tw_1242 : (.instanceMethod yX0_loseNext : Cond) ∈ lw_tbl := t3_in (List.mem_of_getElem? (i := 185) rfl)
set_option maxRecDepth 20000 in
theorem tw_1243 : (.selects RX0 yX0_loseNext yX0_loseNext : Cond) ∈ lw_tbl := t3_in (List.mem_of_getElem? (i := 186) rfl)
set_option maxRecDepth 20000 in
theorem tw_1244 : (.code yX0_loseNext cX0_loseNext 3 (some .boolean) : Cond) ∈ lw_tbl := t3_in (List.mem_of_getElem? (i := 187) rfl)
set_option maxRecDepth 20000 in
theorem tw_1245 : (.methodLink RL 82 yX12_lose : Cond) ∈ lw_tbl := t10_in (List.mem_of_getElem? (i := 36) rfl)
set_option maxRecDepth 20000 in
theorem tw_1246 : (.instanceMethod yX12_lose : Cond) ∈ lw_tbl := t10_in (List.mem_of_getElem? (i := 37) rfl)
set_option maxRecDepth 20000 in
theorem tw_1247 : (.selects RX12 yX12_lose yX12_lose : Cond) ∈ lw_tbl := t10_in (List.mem_of_getElem? (i := 38) rfl)
set_option maxRecDepth 20000 in
theorem tw_1248 : (.code yX12_lose cX12_lose 3 (some .boolean) : Cond) ∈ lw_tbl := t10_in (List.mem_of_getElem? (i := 39) rfl)
set_option maxRecDepth 20000 in
theorem tw_1249 : (.methodLink RL 83 yL_air : Cond) ∈ lw_tbl := t6_in (List.mem_of_getElem? (i := 213) rfl)
set_option maxRecDepth 20000 in
theorem tw_1250 : (.static yL_air : Cond) ∈ lw_tbl := t6_in (List.mem_of_getElem? (i := 214) rfl)
set_option maxRecDepth 20000 in
theorem tw_1251 : (.codeWith yL_air cL_air 5 (some .int) [(0, 10, 13, 19)] : Cond) ∈ lw_tbl := t6_in (List.mem_of_getElem? (i := 215) rfl)
set_option maxRecDepth 20000 in
theorem tw_1252 : (.methodLink RL 15 yX11_air : Cond) ∈ lw_tbl := t6_in (List.mem_of_getElem? (i := 217) rfl)
set_option maxRecDepth 20000 in
theorem tw_1253 : (.instanceMethod yX11_air : Cond) ∈ lw_tbl := t6_in (List.mem_of_getElem? (i := 218) rfl)
set_option maxRecDepth 20000 in
theorem tw_1254 : (.selects RX11 yX11_air yX11_air : Cond) ∈ lw_tbl := t6_in (List.mem_of_getElem? (i := 219) rfl)
set_option maxRecDepth 20000 in
theorem tw_1255 : (.code yX11_air cX11_air 4 (some .int) : Cond) ∈ lw_tbl := t6_in (List.mem_of_getElem? (i := 220) rfl)
set_option maxRecDepth 20000 in
theorem tw_1256 : (.methodLink RX11 278 yX0_figure : Cond) ∈ lw_tbl := t6_in (List.mem_of_getElem? (i := 221) rfl)
set_option maxRecDepth 20000 in
theorem tw_1257 : (.instanceMethod yX0_figure : Cond) ∈ lw_tbl := t6_in (List.mem_of_getElem? (i := 222) rfl)
set_option maxRecDepth 20000 in
theorem tw_1258 : (.selects RX0 yX0_figure yX0_figure : Cond) ∈ lw_tbl := t6_in (List.mem_of_getElem? (i := 223) rfl)
set_option maxRecDepth 20000 in
theorem tw_1259 : (.code yX0_figure cX0_figure 3 (some .int) : Cond) ∈ lw_tbl := t6_in (List.mem_of_getElem? (i := 224) rfl)
set_option maxRecDepth 20000 in
theorem tw_1260 : (.classLink RX11 282 tNS : Cond) ∈ lw_tbl := t6_in (List.mem_of_getElem? (i := 225) rfl)
set_option maxRecDepth 20000 in
theorem tw_1261 : (.initialized tNS : Cond) ∈ lw_tbl := t1_in (List.mem_of_getElem? (i := 20) rfl)
set_option maxRecDepth 20000 in
theorem tw_1262 : (.classLink RL 19 tNS : Cond) ∈ lw_tbl := t6_in (List.mem_of_getElem? (i := 216) rfl)
set_option maxRecDepth 20000 in
theorem tw_1263 : (.methodLink RL 86 yX12_air : Cond) ∈ lw_tbl := t10_in (List.mem_of_getElem? (i := 40) rfl)
set_option maxRecDepth 20000 in
theorem tw_1264 : (.instanceMethod yX12_air : Cond) ∈ lw_tbl := t10_in (List.mem_of_getElem? (i := 41) rfl)
set_option maxRecDepth 20000 in
theorem tw_1265 : (.selects RX12 yX12_air yX12_air : Cond) ∈ lw_tbl := t10_in (List.mem_of_getElem? (i := 42) rfl)
set_option maxRecDepth 20000 in
theorem tw_1266 : (.code yX12_air cX12_air 3 (some .int) : Cond) ∈ lw_tbl := t10_in (List.mem_of_getElem? (i := 43) rfl)
set_option maxRecDepth 20000 in
theorem tw_1267 : (.methodLink RL 87 yX11_device : Cond) ∈ lw_tbl := t4_in (List.mem_of_getElem? (i := 150) rfl)
set_option maxRecDepth 20000 in
theorem tw_1268 : (.instanceMethod yX11_device : Cond) ∈ lw_tbl := t4_in (List.mem_of_getElem? (i := 151) rfl)
set_option maxRecDepth 20000 in
theorem tw_1269 : (.selects RX11 yX11_device yX11_device : Cond) ∈ lw_tbl := t4_in (List.mem_of_getElem? (i := 152) rfl)
set_option maxRecDepth 20000 in
theorem tw_1270 : (.code yX11_device cX11_device 4 (some .int) : Cond) ∈ lw_tbl := t4_in (List.mem_of_getElem? (i := 153) rfl)
set_option maxRecDepth 20000 in
theorem tw_1271 : (.methodLink RX11 338 yX0_lossesOf : Cond) ∈ lw_tbl := t4_in (List.mem_of_getElem? (i := 164) rfl)
set_option maxRecDepth 20000 in
theorem tw_1272 : (.instanceMethod yX0_lossesOf : Cond) ∈ lw_tbl := t4_in (List.mem_of_getElem? (i := 165) rfl)
set_option maxRecDepth 20000 in
theorem tw_1273 : (.selects RX0 yX0_lossesOf yX0_lossesOf : Cond) ∈ lw_tbl := t4_in (List.mem_of_getElem? (i := 166) rfl)
set_option maxRecDepth 20000 in
theorem tw_1274 : (.code yX0_lossesOf cX0_lossesOf 2 (some .int) : Cond) ∈ lw_tbl := t4_in (List.mem_of_getElem? (i := 167) rfl)
set_option maxRecDepth 20000 in
theorem tw_1275 : (.methodLink RX11 341 yX11_flag : Cond) ∈ lw_tbl := t4_in (List.mem_of_getElem? (i := 161) rfl)
set_option maxRecDepth 20000 in
theorem tw_1276 : (.static yX11_flag : Cond) ∈ lw_tbl := t4_in (List.mem_of_getElem? (i := 162) rfl)
set_option maxRecDepth 20000 in
theorem tw_1277 : (.code yX11_flag cX11_flag 1 (some .int) : Cond) ∈ lw_tbl := t4_in (List.mem_of_getElem? (i := 163) rfl)
set_option maxRecDepth 20000 in
theorem tw_1278 : (.methodLink RX11 321 yX11_linkFigure : Cond) ∈ lw_tbl := t4_in (List.mem_of_getElem? (i := 154) rfl)
set_option maxRecDepth 20000 in
theorem tw_1279 : (.instanceMethod yX11_linkFigure : Cond) ∈ lw_tbl := t4_in (List.mem_of_getElem? (i := 156) rfl)
set_option maxRecDepth 20000 in
theorem tw_1280 : (.selects RX11 yX11_linkFigure yX11_linkFigure : Cond) ∈ lw_tbl := sel1_in (List.mem_of_getElem? (i := 6) rfl)
set_option maxRecDepth 20000 in
theorem tw_1281 : (.code yX11_linkFigure cX11_linkFigure 4 (some .int) : Cond) ∈ lw_tbl := t4_in (List.mem_of_getElem? (i := 157) rfl)
set_option maxRecDepth 20000 in
theorem tw_1282 : (.methodLink RX11 325 yX11_talkFigure : Cond) ∈ lw_tbl := t4_in (List.mem_of_getElem? (i := 158) rfl)
set_option maxRecDepth 20000 in
theorem tw_1283 : (.static yX11_talkFigure : Cond) ∈ lw_tbl := t4_in (List.mem_of_getElem? (i := 159) rfl)
set_option maxRecDepth 20000 in
theorem tw_1284 : (.code yX11_talkFigure cX11_talkFigure 2 (some .int) : Cond) ∈ lw_tbl := t4_in (List.mem_of_getElem? (i := 160) rfl)
set_option maxRecDepth 20000 in
theorem tw_1285 : (.methodLink RL 90 yX12_device : Cond) ∈ lw_tbl := t10_in (List.mem_of_getElem? (i := 44) rfl)
set_option maxRecDepth 20000 in
theorem tw_1286 : (.instanceMethod yX12_device : Cond) ∈ lw_tbl := t10_in (List.mem_of_getElem? (i := 45) rfl)
set_option maxRecDepth 20000 in
theorem tw_1287 : (.selects RX12 yX12_device yX12_device : Cond) ∈ lw_tbl := t10_in (List.mem_of_getElem? (i := 46) rfl)
set_option maxRecDepth 20000 in
theorem tw_1288 : (.code yX12_device cX12_device 5 (some .int) : Cond) ∈ lw_tbl := t10_in (List.mem_of_getElem? (i := 47) rfl)
set_option maxRecDepth 20000 in
theorem tw_1289 : (.methodLink RL 91 yX11_number : Cond) ∈ lw_tbl := t4_in (List.mem_of_getElem? (i := 137) rfl)
set_option maxRecDepth 20000 in
theorem tw_1290 : (.instanceMethod yX11_number : Cond) ∈ lw_tbl := t4_in (List.mem_of_getElem? (i := 138) rfl)
set_option maxRecDepth 20000 in
theorem tw_1291 : (.selects RX11 yX11_number yX11_number : Cond) ∈ lw_tbl := t4_in (List.mem_of_getElem? (i := 139) rfl)
set_option maxRecDepth 20000 in
theorem tw_1292 : (.code yX11_number cX11_number 4 (some .long) : Cond) ∈ lw_tbl := t4_in (List.mem_of_getElem? (i := 140) rfl)
set_option maxRecDepth 20000 in
theorem tw_1293 : (.constantLong RX11 297 (-1) : Cond) ∈ lw_tbl := t4_in (List.mem_of_getElem? (i := 141) rfl)
set_option maxRecDepth 20000 in
theorem tw_1294 : (.methodLink RL 95 yX12_number__ : Cond) ∈ lw_tbl := t10_in (List.mem_of_getElem? (i := 48) rfl)
set_option maxRecDepth 20000 in
theorem tw_1295 : (.instanceMethod yX12_number__ : Cond) ∈ lw_tbl := t10_in (List.mem_of_getElem? (i := 49) rfl)
set_option maxRecDepth 20000 in
theorem tw_1296 : (.selects RX12 yX12_number__ yX12_number__ : Cond) ∈ lw_tbl := t10_in (List.mem_of_getElem? (i := 50) rfl)
set_option maxRecDepth 20000 in
theorem tw_1297 : (.code yX12_number__ cX12_number__ 3 (some .long) : Cond) ∈ lw_tbl := t10_in (List.mem_of_getElem? (i := 51) rfl)
set_option maxRecDepth 20000 in
theorem tw_1298 : (.constantLong RX12 681 (-1) : Cond) ∈ lw_tbl := t10_in (List.mem_of_getElem? (i := 52) rfl)
set_option maxRecDepth 20000 in
theorem tw_1299 : (.methodLink RL 96 yX11_byteOf : Cond) ∈ lw_tbl := t4_in (List.mem_of_getElem? (i := 142) rfl)
set_option maxRecDepth 20000 in
theorem tw_1300 : (.instanceMethod yX11_byteOf : Cond) ∈ lw_tbl := t4_in (List.mem_of_getElem? (i := 143) rfl)
set_option maxRecDepth 20000 in
theorem tw_1301 : (.selects RX11 yX11_byteOf yX11_byteOf : Cond) ∈ lw_tbl := t4_in (List.mem_of_getElem? (i := 144) rfl)
set_option maxRecDepth 20000 in
theorem tw_1302 : (.code yX11_byteOf cX11_byteOf 5 (some .int) : Cond) ∈ lw_tbl := t4_in (List.mem_of_getElem? (i := 145) rfl)
set_option maxRecDepth 20000 in
theorem tw_1303 : (.methodLink RX11 314 yX11_byteAt : Cond) ∈ lw_tbl := t4_in (List.mem_of_getElem? (i := 147) rfl)
set_option maxRecDepth 20000 in
theorem tw_1304 : (.static yX11_byteAt : Cond) ∈ lw_tbl := t4_in (List.mem_of_getElem? (i := 148) rfl)
set_option maxRecDepth 20000 in
theorem tw_1305 : (.code yX11_byteAt cX11_byteAt 2 (some .int) : Cond) ∈ lw_tbl := t4_in (List.mem_of_getElem? (i := 149) rfl)
set_option maxRecDepth 20000 in
theorem tw_1306 : (.methodLink RL 99 yX12_byteOf : Cond) ∈ lw_tbl := t10_in (List.mem_of_getElem? (i := 53) rfl)
set_option maxRecDepth 20000 in
theorem tw_1307 : (.instanceMethod yX12_byteOf : Cond) ∈ lw_tbl := t10_in (List.mem_of_getElem? (i := 54) rfl)
set_option maxRecDepth 20000 in
theorem tw_1308 : (.selects RX12 yX12_byteOf yX12_byteOf : Cond) ∈ lw_tbl := t10_in (List.mem_of_getElem? (i := 55) rfl)
set_option maxRecDepth 20000 in
theorem tw_1309 : (.code yX12_byteOf cX12_byteOf 4 (some .int) : Cond) ∈ lw_tbl := t10_in (List.mem_of_getElem? (i := 56) rfl)
set_option maxRecDepth 20000 in
theorem tw_1310 : (.methodLink RL 100 yX11_control : Cond) ∈ lw_tbl := t3_in (List.mem_of_getElem? (i := 219) rfl)
set_option maxRecDepth 20000 in
theorem tw_1311 : (.instanceMethod yX11_control : Cond) ∈ lw_tbl := t3_in (List.mem_of_getElem? (i := 220) rfl)
set_option maxRecDepth 20000 in
theorem tw_1312 : (.selects RX11 yX11_control yX11_control : Cond) ∈ lw_tbl := t3_in (List.mem_of_getElem? (i := 221) rfl)
set_option maxRecDepth 20000 in
theorem tw_1313 : (.code yX11_control cX11_control 4 (some .boolean) : Cond) ∈ lw_tbl := t3_in (List.mem_of_getElem? (i := 222) rfl)
set_option maxRecDepth 20000 in
theorem tw_1314 : (.methodLink RX11 141 yX3_mayControl : Cond) ∈ lw_tbl := t3_in (List.mem_of_getElem? (i := 223) rfl)
set_option maxRecDepth 20000 in
theorem tw_1315 : (.instanceMethod yX3_mayControl : Cond) ∈ lw_tbl := t3_in (List.mem_of_getElem? (i := 224) rfl)
set_option maxRecDepth 20000 in
theorem tw_1316 : (.selects RX3 yX3_mayControl yX3_mayControl : Cond) ∈ lw_tbl := t3_in (List.mem_of_getElem? (i := 225) rfl)
set_option maxRecDepth 20000 in
theorem tw_1317 : (.code yX3_mayControl cX3_mayControl 1 (some .boolean) : Cond) ∈ lw_tbl := t3_in (List.mem_of_getElem? (i := 226) rfl)
set_option maxRecDepth 20000 in
theorem tw_1318 : (.methodLink RL 103 yX12_control : Cond) ∈ lw_tbl := t10_in (List.mem_of_getElem? (i := 57) rfl)
set_option maxRecDepth 20000 in
theorem tw_1319 : (.instanceMethod yX12_control : Cond) ∈ lw_tbl := t10_in (List.mem_of_getElem? (i := 58) rfl)
set_option maxRecDepth 20000 in
theorem tw_1320 : (.selects RX12 yX12_control yX12_control : Cond) ∈ lw_tbl := t10_in (List.mem_of_getElem? (i := 59) rfl)
set_option maxRecDepth 20000 in
theorem tw_1321 : (.code yX12_control cX12_control 3 (some .boolean) : Cond) ∈ lw_tbl := t10_in (List.mem_of_getElem? (i := 60) rfl)
set_option maxRecDepth 20000 in
theorem tw_1322 : (.methodLink RX12 683 yX12_mayControl : Cond) ∈ lw_tbl := t10_in (List.mem_of_getElem? (i := 61) rfl)
set_option maxRecDepth 20000 in
theorem tw_1323 : (.instanceMethod yX12_mayControl : Cond) ∈ lw_tbl := t10_in (List.mem_of_getElem? (i := 63) rfl)
set_option maxRecDepth 20000 in
theorem tw_1324 : (.selects RX12 yX12_mayControl yX12_mayControl : Cond) ∈ lw_tbl := sel8_in (List.mem_of_getElem? (i := 2) rfl)
set_option maxRecDepth 20000 in
theorem tw_1325 : (.code yX12_mayControl cX12_mayControl 2 (some .boolean) : Cond) ∈ lw_tbl := t10_in (List.mem_of_getElem? (i := 64) rfl)
set_option maxRecDepth 20000 in
theorem tw_1326 : (.methodLink RL 104 yX11_map : Cond) ∈ lw_tbl := t4_in (List.mem_of_getElem? (i := 9) rfl)
set_option maxRecDepth 20000 in
theorem tw_1327 : (.instanceMethod yX11_map : Cond) ∈ lw_tbl := t4_in (List.mem_of_getElem? (i := 10) rfl)
set_option maxRecDepth 20000 in
theorem tw_1328 : (.selects RX11 yX11_map yX11_map : Cond) ∈ lw_tbl := t4_in (List.mem_of_getElem? (i := 11) rfl)
set_option maxRecDepth 20000 in
theorem tw_1329 : (.code yX11_map cX11_map 6 (some .boolean) : Cond) ∈ lw_tbl := t4_in (List.mem_of_getElem? (i := 12) rfl)
set_option maxRecDepth 20000 in
theorem tw_1330 : (.methodLink RX11 170 yX6_isProperMap : Cond) ∈ lw_tbl := t4_in (List.mem_of_getElem? (i := 13) rfl)
set_option maxRecDepth 20000 in
theorem tw_1331 : (.constant RX11 123 (65535) : Cond) ∈ lw_tbl := t3_in (List.mem_of_getElem? (i := 201) rfl)
set_option maxRecDepth 20000 in
theorem tw_1332 : (.methodLink RX11 177 yX6_awaitMap : Cond) ∈ lw_tbl := t4_in (List.mem_of_getElem? (i := 14) rfl)
set_option maxRecDepth 20000 in
theorem tw_1333 : (.methodLink RL 108 yX12_map : Cond) ∈ lw_tbl := t10_in (List.mem_of_getElem? (i := 65) rfl)
set_option maxRecDepth 20000 in
theorem tw_1334 : (.instanceMethod yX12_map : Cond) ∈ lw_tbl := t10_in (List.mem_of_getElem? (i := 66) rfl)
set_option maxRecDepth 20000 in
theorem tw_1335 : (.selects RX12 yX12_map yX12_map : Cond) ∈ lw_tbl := t10_in (List.mem_of_getElem? (i := 67) rfl)
set_option maxRecDepth 20000 in
theorem tw_1336 : (.code yX12_map cX12_map 4 (some .boolean) : Cond) ∈ lw_tbl := t10_in (List.mem_of_getElem? (i := 68) rfl)
set_option maxRecDepth 20000 in
theorem tw_1337 : (.methodLink RL 109 yX11_encrypt : Cond) ∈ lw_tbl := t4_in (List.mem_of_getElem? (i := 18) rfl)
set_option maxRecDepth 20000 in
theorem tw_1338 : (.instanceMethod yX11_encrypt : Cond) ∈ lw_tbl := t4_in (List.mem_of_getElem? (i := 19) rfl)
set_option maxRecDepth 20000 in
theorem tw_1339 : (.selects RX11 yX11_encrypt yX11_encrypt : Cond) ∈ lw_tbl := t4_in (List.mem_of_getElem? (i := 20) rfl)
set_option maxRecDepth 20000 in
theorem tw_1340 : (.code yX11_encrypt cX11_encrypt 3 (some .boolean) : Cond) ∈ lw_tbl := t4_in (List.mem_of_getElem? (i := 21) rfl)
set_option maxRecDepth 20000 in
theorem tw_1341 : (.methodLink RL 112 yX12_encrypt : Cond) ∈ lw_tbl := t10_in (List.mem_of_getElem? (i := 69) rfl)
set_option maxRecDepth 20000 in
theorem tw_1342 : (.instanceMethod yX12_encrypt : Cond) ∈ lw_tbl := t10_in (List.mem_of_getElem? (i := 70) rfl)
set_option maxRecDepth 20000 in
theorem tw_1343 : (.selects RX12 yX12_encrypt yX12_encrypt : Cond) ∈ lw_tbl := t10_in (List.mem_of_getElem? (i := 71) rfl)
set_option maxRecDepth 20000 in
theorem tw_1344 : (.code yX12_encrypt cX12_encrypt 2 (some .boolean) : Cond) ∈ lw_tbl := t10_in (List.mem_of_getElem? (i := 72) rfl)
set_option maxRecDepth 20000 in
theorem tw_1345 : (.methodLink RL 113 yX11_pair : Cond) ∈ lw_tbl := t4_in (List.mem_of_getElem? (i := 36) rfl)
set_option maxRecDepth 20000 in
theorem tw_1346 : (.instanceMethod yX11_pair : Cond) ∈ lw_tbl := t4_in (List.mem_of_getElem? (i := 37) rfl)
set_option maxRecDepth 20000 in
theorem tw_1347 : (.selects RX11 yX11_pair yX11_pair : Cond) ∈ lw_tbl := t4_in (List.mem_of_getElem? (i := 38) rfl)
set_option maxRecDepth 20000 in
theorem tw_1348 : (.code yX11_pair cX11_pair 4 (some .boolean) : Cond) ∈ lw_tbl := t4_in (List.mem_of_getElem? (i := 39) rfl)
set_option maxRecDepth 20000 in
theorem tw_1349 : (.methodLink RX11 222 yX7_isFull : Cond) ∈ lw_tbl := t4_in (List.mem_of_getElem? (i := 40) rfl)
set_option maxRecDepth 20000 in
theorem tw_1350 : (.constant RX11 110 (999999) : Cond) ∈ lw_tbl := t3_in (List.mem_of_getElem? (i := 192) rfl)
set_option maxRecDepth 20000 in
theorem tw_1351 : (.methodLink RX11 228 yX8_start : Cond) ∈ lw_tbl := t4_in (List.mem_of_getElem? (i := 44) rfl)
set_option maxRecDepth 20000 in
theorem tw_1352 : (.instanceMethod yX8_start : Cond) ∈ lw_tbl := t4_in (List.mem_of_getElem? (i := 45) rfl)
set_option maxRecDepth 20000 in
theorem tw_1353 : (.selects RX8 yX8_start yX8_start : Cond) ∈ lw_tbl := t4_in (List.mem_of_getElem? (i := 46) rfl)
set_option maxRecDepth 20000 in
theorem tw_1354 : (.code yX8_start cX8_start 3 none : Cond) ∈ lw_tbl := t4_in (List.mem_of_getElem? (i := 47) rfl)
set_option maxRecDepth 20000 in
theorem tw_1355 : (.methodLink RL 116 yX12_pair : Cond) ∈ lw_tbl := t10_in (List.mem_of_getElem? (i := 73) rfl)
set_option maxRecDepth 20000 in
theorem tw_1356 : (.instanceMethod yX12_pair : Cond) ∈ lw_tbl := t10_in (List.mem_of_getElem? (i := 74) rfl)
set_option maxRecDepth 20000 in
theorem tw_1357 : (.selects RX12 yX12_pair yX12_pair : Cond) ∈ lw_tbl := t10_in (List.mem_of_getElem? (i := 75) rfl)
set_option maxRecDepth 20000 in
theorem tw_1358 : (.code yX12_pair cX12_pair 3 (some .boolean) : Cond) ∈ lw_tbl := t10_in (List.mem_of_getElem? (i := 76) rfl)
set_option maxRecDepth 20000 in
theorem tw_1359 : (.constant RX12 686 (1000000) : Cond) ∈ lw_tbl := t10_in (List.mem_of_getElem? (i := 77) rfl)
set_option maxRecDepth 20000 in
theorem tw_1360 : (.methodLink RL 117 yX11_allow : Cond) ∈ lw_tbl := t3_in (List.mem_of_getElem? (i := 188) rfl)
set_option maxRecDepth 20000 in
theorem tw_1361 : (.instanceMethod yX11_allow : Cond) ∈ lw_tbl := t3_in (List.mem_of_getElem? (i := 189) rfl)
set_option maxRecDepth 20000 in
theorem tw_1362 : (.selects RX11 yX11_allow yX11_allow : Cond) ∈ lw_tbl := t3_in (List.mem_of_getElem? (i := 190) rfl)
set_option maxRecDepth 20000 in
theorem tw_1363 : (.code yX11_allow cX11_allow 4 (some .boolean) : Cond) ∈ lw_tbl := t3_in (List.mem_of_getElem? (i := 191) rfl)
set_option maxRecDepth 20000 in
theorem tw_1364 : (.methodLink RL 120 yX12_allow : Cond) ∈ lw_tbl := t10_in (List.mem_of_getElem? (i := 78) rfl)
set_option maxRecDepth 20000 in
theorem tw_1365 : (.instanceMethod yX12_allow : Cond) ∈ lw_tbl := t10_in (List.mem_of_getElem? (i := 79) rfl)
set_option maxRecDepth 20000 in
theorem tw_1366 : (.selects RX12 yX12_allow yX12_allow : Cond) ∈ lw_tbl := t10_in (List.mem_of_getElem? (i := 80) rfl)
set_option maxRecDepth 20000 in
theorem tw_1367 : (.code yX12_allow cX12_allow 3 (some .boolean) : Cond) ∈ lw_tbl := t10_in (List.mem_of_getElem? (i := 81) rfl)
set_option maxRecDepth 20000 in
theorem tw_1368 : (.methodLink RL 121 yX11_features : Cond) ∈ lw_tbl := t3_in (List.mem_of_getElem? (i := 193) rfl)
set_option maxRecDepth 20000 in
theorem tw_1369 : (.instanceMethod yX11_features : Cond) ∈ lw_tbl := t3_in (List.mem_of_getElem? (i := 194) rfl)
set_option maxRecDepth 20000 in
theorem tw_1370 : (.selects RX11 yX11_features yX11_features : Cond) ∈ lw_tbl := t3_in (List.mem_of_getElem? (i := 195) rfl)
set_option maxRecDepth 20000 in
theorem tw_1371 : (.code yX11_features cX11_features 5 (some .boolean) : Cond) ∈ lw_tbl := t3_in (List.mem_of_getElem? (i := 196) rfl)
set_option maxRecDepth 20000 in
theorem tw_1372 : (.methodLink RL 124 yX12_features : Cond) ∈ lw_tbl := t10_in (List.mem_of_getElem? (i := 82) rfl)
set_option maxRecDepth 20000 in
theorem tw_1373 : (.instanceMethod yX12_features : Cond) ∈ lw_tbl := t10_in (List.mem_of_getElem? (i := 83) rfl)
set_option maxRecDepth 20000 in
theorem tw_1374 : (.selects RX12 yX12_features yX12_features : Cond) ∈ lw_tbl := t10_in (List.mem_of_getElem? (i := 84) rfl)
set_option maxRecDepth 20000 in
theorem tw_1375 : (.code yX12_features cX12_features 4 (some .boolean) : Cond) ∈ lw_tbl := t10_in (List.mem_of_getElem? (i := 85) rfl)
set_option maxRecDepth 20000 in
theorem tw_1376 : (.methodLink RL 125 yX11_attribute : Cond) ∈ lw_tbl := t3_in (List.mem_of_getElem? (i := 197) rfl)
set_option maxRecDepth 20000 in
theorem tw_1377 : (.instanceMethod yX11_attribute : Cond) ∈ lw_tbl := t3_in (List.mem_of_getElem? (i := 198) rfl)
set_option maxRecDepth 20000 in
theorem tw_1378 : (.selects RX11 yX11_attribute yX11_attribute : Cond) ∈ lw_tbl := t3_in (List.mem_of_getElem? (i := 199) rfl)
set_option maxRecDepth 20000 in
theorem tw_1379 : (.code yX11_attribute cX11_attribute 6 (some .int) : Cond) ∈ lw_tbl := t3_in (List.mem_of_getElem? (i := 200) rfl)
set_option maxRecDepth 20000 in
theorem tw_1380 : (.methodLink RX11 128 yX10_addAttribute : Cond) ∈ lw_tbl := t3_in (List.mem_of_getElem? (i := 202) rfl)
set_option maxRecDepth 20000 in
theorem tw_1381 : (.instanceMethod yX10_addAttribute : Cond) ∈ lw_tbl := t3_in (List.mem_of_getElem? (i := 203) rfl)
set_option maxRecDepth 20000 in
theorem tw_1382 : (.selects RX10 yX10_addAttribute yX10_addAttribute : Cond) ∈ lw_tbl := t3_in (List.mem_of_getElem? (i := 204) rfl)
set_option maxRecDepth 20000 in
theorem tw_1383 : (.code yX10_addAttribute cX10_addAttribute 4 (some .int) : Cond) ∈ lw_tbl := t3_in (List.mem_of_getElem? (i := 205) rfl)
set_option maxRecDepth 20000 in
theorem tw_1384 : (.methodLink RX10 59 yX9_become : Cond) ∈ lw_tbl := t3_in (List.mem_of_getElem? (i := 206) rfl)
set_option maxRecDepth 20000 in
theorem tw_1385 : (.methodLink RL 128 yX12_attribute : Cond) ∈ lw_tbl := t10_in (List.mem_of_getElem? (i := 86) rfl)
set_option maxRecDepth 20000 in
theorem tw_1386 : (.instanceMethod yX12_attribute : Cond) ∈ lw_tbl := t10_in (List.mem_of_getElem? (i := 87) rfl)
set_option maxRecDepth 20000 in
theorem tw_1387 : (.selects RX12 yX12_attribute yX12_attribute : Cond) ∈ lw_tbl := t10_in (List.mem_of_getElem? (i := 88) rfl)
set_option maxRecDepth 20000 in
theorem tw_1388 : (.code yX12_attribute cX12_attribute 5 (some .int) : Cond) ∈ lw_tbl := t10_in (List.mem_of_getElem? (i := 89) rfl)
set_option maxRecDepth 20000 in
theorem tw_1389 : (.constant RX12 687 (65536) : Cond) ∈ lw_tbl := t10_in (List.mem_of_getElem? (i := 90) rfl)
set_option maxRecDepth 20000 in
theorem tw_1390 : (.methodLink RX12 688 yX12_becomes : Cond) ∈ lw_tbl := t10_in (List.mem_of_getElem? (i := 91) rfl)
set_option maxRecDepth 20000 in
theorem tw_1391 : (.instanceMethod yX12_becomes : Cond) ∈ lw_tbl := t10_in (List.mem_of_getElem? (i := 93) rfl)
set_option maxRecDepth 20000 in
theorem tw_1392 : (.selects RX12 yX12_becomes yX12_becomes : Cond) ∈ lw_tbl := sel8_in (List.mem_of_getElem? (i := 3) rfl)
set_option maxRecDepth 20000 in
theorem tw_1393 : (.code yX12_becomes cX12_becomes 3 none : Cond) ∈ lw_tbl := t10_in (List.mem_of_getElem? (i := 94) rfl)
set_option maxRecDepth 20000 in
theorem tw_1394 : (.methodLink RL 129 yX11_set : Cond) ∈ lw_tbl := t3_in (List.mem_of_getElem? (i := 207) rfl)
set_option maxRecDepth 20000 in
theorem tw_1395 : (.instanceMethod yX11_set : Cond) ∈ lw_tbl := t3_in (List.mem_of_getElem? (i := 208) rfl)
set_option maxRecDepth 20000 in
theorem tw_1396 : (.selects RX11 yX11_set yX11_set : Cond) ∈ lw_tbl := t3_in (List.mem_of_getElem? (i := 209) rfl)
set_option maxRecDepth 20000 in
theorem tw_1397 : (.code yX11_set cX11_set 5 (some .boolean) : Cond) ∈ lw_tbl := t3_in (List.mem_of_getElem? (i := 210) rfl)
set_option maxRecDepth 20000 in
theorem tw_1398 : (.methodLink RX11 134 yX10_valueOf : Cond) ∈ lw_tbl := t3_in (List.mem_of_getElem? (i := 211) rfl)
set_option maxRecDepth 20000 in
theorem tw_1399 : (.methodLink RL 132 yX12_set : Cond) ∈ lw_tbl := t10_in (List.mem_of_getElem? (i := 95) rfl)
set_option maxRecDepth 20000 in
theorem tw_1400 : (.instanceMethod yX12_set : Cond) ∈ lw_tbl := t10_in (List.mem_of_getElem? (i := 96) rfl)
set_option maxRecDepth 20000 in
theorem tw_1401 : (.selects RX12 yX12_set yX12_set : Cond) ∈ lw_tbl := t10_in (List.mem_of_getElem? (i := 97) rfl)
set_option maxRecDepth 20000 in
theorem tw_1402 : (.code yX12_set cX12_set 3 (some .boolean) : Cond) ∈ lw_tbl := t10_in (List.mem_of_getElem? (i := 98) rfl)
set_option maxRecDepth 20000 in
theorem tw_1403 : (.methodLink RL 133 yL_value : Cond) ∈ lw_tbl := t7_in (List.mem_of_getElem? (i := 1) rfl)
set_option maxRecDepth 20000 in
theorem tw_1404 : (.static yL_value : Cond) ∈ lw_tbl := t7_in (List.mem_of_getElem? (i := 2) rfl)
set_option maxRecDepth 20000 in
theorem tw_1405 : (.codeWith yL_value cL_value 6 (some .int) [(0, 12, 15, 19)] : Cond) ∈ lw_tbl := t7_in (List.mem_of_getElem? (i := 3) rfl)
set_option maxRecDepth 20000 in
theorem tw_1406 : (.methodLink RL 21 yX11_value : Cond) ∈ lw_tbl := t7_in (List.mem_of_getElem? (i := 4) rfl)
set_option maxRecDepth 20000 in
theorem tw_1407 : (.instanceMethod yX11_value : Cond) ∈ lw_tbl := t7_in (List.mem_of_getElem? (i := 5) rfl)
set_option maxRecDepth 20000 in
theorem tw_1408 : (.selects RX11 yX11_value yX11_value : Cond) ∈ lw_tbl := t7_in (List.mem_of_getElem? (i := 6) rfl)
set_option maxRecDepth 20000 in
theorem tw_1409 : (.code yX11_value cX11_value 6 (some .int) : Cond) ∈ lw_tbl := t7_in (List.mem_of_getElem? (i := 7) rfl)
set_option maxRecDepth 20000 in
theorem tw_1410 : (.methodLink RL 136 yX12_value : Cond) ∈ lw_tbl := t10_in (List.mem_of_getElem? (i := 99) rfl)
set_option maxRecDepth 20000 in
theorem tw_1411 : (.instanceMethod yX12_value : Cond) ∈ lw_tbl := t10_in (List.mem_of_getElem? (i := 100) rfl)
set_option maxRecDepth 20000 in
theorem tw_1412 : (.selects RX12 yX12_value yX12_value : Cond) ∈ lw_tbl := t10_in (List.mem_of_getElem? (i := 101) rfl)
set_option maxRecDepth 20000 in
theorem tw_1413 : (.code yX12_value cX12_value 5 (some .int) : Cond) ∈ lw_tbl := t10_in (List.mem_of_getElem? (i := 102) rfl)
set_option maxRecDepth 20000 in
theorem tw_1414 : (.methodLink RL 137 yX11_mtu : Cond) ∈ lw_tbl := t3_in (List.mem_of_getElem? (i := 215) rfl)
set_option maxRecDepth 20000 in
theorem tw_1415 : (.instanceMethod yX11_mtu : Cond) ∈ lw_tbl := t3_in (List.mem_of_getElem? (i := 216) rfl)
set_option maxRecDepth 20000 in
theorem tw_1416 : (.selects RX11 yX11_mtu yX11_mtu : Cond) ∈ lw_tbl := t3_in (List.mem_of_getElem? (i := 217) rfl)
set_option maxRecDepth 20000 in
theorem tw_1417 : (.code yX11_mtu cX11_mtu 4 (some .boolean) : Cond) ∈ lw_tbl := t3_in (List.mem_of_getElem? (i := 218) rfl)
set_option maxRecDepth 20000 in
theorem tw_1418 : (.methodLink RL 140 yX12_mtu : Cond) ∈ lw_tbl := t10_in (List.mem_of_getElem? (i := 103) rfl)
set_option maxRecDepth 20000 in
theorem tw_1419 : (.instanceMethod yX12_mtu : Cond) ∈ lw_tbl := t10_in (List.mem_of_getElem? (i := 104) rfl)
set_option maxRecDepth 20000 in
theorem tw_1420 : (.selects RX12 yX12_mtu yX12_mtu : Cond) ∈ lw_tbl := t10_in (List.mem_of_getElem? (i := 105) rfl)
set_option maxRecDepth 20000 in
theorem tw_1421 : (.code yX12_mtu cX12_mtu 3 (some .boolean) : Cond) ∈ lw_tbl := t10_in (List.mem_of_getElem? (i := 106) rfl)
set_option maxRecDepth 20000 in
theorem tw_1422 : (.methodLink RL 141 yX11_job : Cond) ∈ lw_tbl := t4_in (List.mem_of_getElem? (i := 70) rfl)
set_option maxRecDepth 20000 in
theorem tw_1423 : (.instanceMethod yX11_job : Cond) ∈ lw_tbl := t4_in (List.mem_of_getElem? (i := 71) rfl)
set_option maxRecDepth 20000 in
theorem tw_1424 : (.selects RX11 yX11_job yX11_job : Cond) ∈ lw_tbl := t4_in (List.mem_of_getElem? (i := 72) rfl)
set_option maxRecDepth 20000 in
theorem tw_1425 : (.code yX11_job cX11_job 7 (some .boolean) : Cond) ∈ lw_tbl := t4_in (List.mem_of_getElem? (i := 73) rfl)
set_option maxRecDepth 20000 in
theorem tw_1426 : (.methodLink RX11 251 yX2_firstHandle : Cond) ∈ lw_tbl := t4_in (List.mem_of_getElem? (i := 79) rfl)
set_option maxRecDepth 20000 in
theorem tw_1427 : (.instanceMethod yX2_firstHandle : Cond) ∈ lw_tbl := t4_in (List.mem_of_getElem? (i := 80) rfl)
set_option maxRecDepth 20000 in
theorem tw_1428 : (.selects RX2 yX2_firstHandle yX2_firstHandle : Cond) ∈ lw_tbl := t4_in (List.mem_of_getElem? (i := 81) rfl)
set_option maxRecDepth 20000 in
theorem tw_1429 : (.code yX2_firstHandle cX2_firstHandle 1 (some .int) : Cond) ∈ lw_tbl := t4_in (List.mem_of_getElem? (i := 82) rfl)
set_option maxRecDepth 20000 in
theorem tw_1430 : (.methodLink RX11 255 yX2_ask : Cond) ∈ lw_tbl := t4_in (List.mem_of_getElem? (i := 83) rfl)
set_option maxRecDepth 20000 in
theorem tw_1431 : (.methodLink RX11 244 yX2_begin : Cond) ∈ lw_tbl := t4_in (List.mem_of_getElem? (i := 74) rfl)
set_option maxRecDepth 20000 in
theorem tw_1432 : (.instanceMethod yX2_begin : Cond) ∈ lw_tbl := t4_in (List.mem_of_getElem? (i := 75) rfl)
set_option maxRecDepth 20000 in
theorem tw_1433 : (.selects RX2 yX2_begin yX2_begin : Cond) ∈ lw_tbl := t4_in (List.mem_of_getElem? (i := 76) rfl)
set_option maxRecDepth 20000 in
theorem tw_1434 : (.code yX2_begin cX2_begin 4 none : Cond) ∈ lw_tbl := t4_in (List.mem_of_getElem? (i := 77) rfl)
set_option maxRecDepth 20000 in
theorem tw_1435 : (.methodLink RX2 36 yX9_clear : Cond) ∈ lw_tbl := t4_in (List.mem_of_getElem? (i := 78) rfl)
set_option maxRecDepth 20000 in
theorem tw_1436 : (.methodLink RL 145 yX12_job : Cond) ∈ lw_tbl := t10_in (List.mem_of_getElem? (i := 107) rfl)
set_option maxRecDepth 20000 in
theorem tw_1437 : (.instanceMethod yX12_job : Cond) ∈ lw_tbl := t10_in (List.mem_of_getElem? (i := 108) rfl)
set_option maxRecDepth 20000 in
theorem tw_1438 : (.selects RX12 yX12_job yX12_job : Cond) ∈ lw_tbl := t10_in (List.mem_of_getElem? (i := 109) rfl)
set_option maxRecDepth 20000 in
theorem tw_1439 : (.code yX12_job cX12_job 6 (some .boolean) : Cond) ∈ lw_tbl := t10_in (List.mem_of_getElem? (i := 110) rfl)
set_option maxRecDepth 20000 in
theorem tw_1440 : (.methodLink RL 146 yX11_send : Cond) ∈ lw_tbl := t4_in (List.mem_of_getElem? (i := 107) rfl)
set_option maxRecDepth 20000 in
theorem tw_1441 : (.instanceMethod yX11_send : Cond) ∈ lw_tbl := t4_in (List.mem_of_getElem? (i := 108) rfl)
set_option maxRecDepth 20000 in
theorem tw_1442 : (.selects RX11 yX11_send yX11_send : Cond) ∈ lw_tbl := t4_in (List.mem_of_getElem? (i := 109) rfl)
set_option maxRecDepth 20000 in
theorem tw_1443 : (.code yX11_send cX11_send 7 (some .boolean) : Cond) ∈ lw_tbl := t4_in (List.mem_of_getElem? (i := 110) rfl)
set_option maxRecDepth 20000 in
theorem tw_1444 : (.methodLink RX11 262 yX3_postValue : Cond) ∈ lw_tbl := t4_in (List.mem_of_getElem? (i := 111) rfl)
set_option maxRecDepth 20000 in
theorem tw_1445 : (.instanceMethod yX3_postValue : Cond) ∈ lw_tbl := t4_in (List.mem_of_getElem? (i := 112) rfl)
set_option maxRecDepth 20000 in
theorem tw_1446 : (.selects RX3 yX3_postValue yX3_postValue : Cond) ∈ lw_tbl := t4_in (List.mem_of_getElem? (i := 113) rfl)
set_option maxRecDepth 20000 in
theorem tw_1447 : (.code yX3_postValue cX3_postValue 5 none : Cond) ∈ lw_tbl := t4_in (List.mem_of_getElem? (i := 114) rfl)
set_option maxRecDepth 20000 in
theorem tw_1448 : (.fieldLink RX3 58 "LowEnergy$Device" "draft" "LLowEnergy$Row;" : Cond) ∈ lw_tbl := t3_in (List.mem_of_getElem? (i := 43) rfl)
set_option maxRecDepth 20000 in
theorem tw_1449 : (.methodLink RX3 173 yX9_put : Cond) ∈ lw_tbl := t4_in (List.mem_of_getElem? (i := 116) rfl)
set_option maxRecDepth 20000 in
theorem tw_1450 : (.methodLink RX3 176 yX9_putNumber : Cond) ∈ lw_tbl := t4_in (List.mem_of_getElem? (i := 117) rfl)
set_option maxRecDepth 20000 in
theorem tw_1451 : (.methodLink RX3 180 yX7_post : Cond) ∈ lw_tbl := t4_in (List.mem_of_getElem? (i := 119) rfl)
set_option maxRecDepth 20000 in
theorem tw_1452 : (.methodLink RL 150 yX12_send : Cond) ∈ lw_tbl := t10_in (List.mem_of_getElem? (i := 111) rfl)
set_option maxRecDepth 20000 in
theorem tw_1453 : (.instanceMethod yX12_send : Cond) ∈ lw_tbl := t10_in (List.mem_of_getElem? (i := 112) rfl)
set_option maxRecDepth 20000 in
theorem tw_1454 : (.selects RX12 yX12_send yX12_send : Cond) ∈ lw_tbl := t10_in (List.mem_of_getElem? (i := 113) rfl)
set_option maxRecDepth 20000 in
theorem tw_1455 : (.code yX12_send cX12_send 6 (some .boolean) : Cond) ∈ lw_tbl := t10_in (List.mem_of_getElem? (i := 114) rfl)
set_option maxRecDepth 20000 in
theorem tw_1456 : (.methodLink RL 151 yX11_completion : Cond) ∈ lw_tbl := t4_in (List.mem_of_getElem? (i := 128) rfl)
set_option maxRecDepth 20000 in
theorem tw_1457 : (.instanceMethod yX11_completion : Cond) ∈ lw_tbl := t4_in (List.mem_of_getElem? (i := 129) rfl)
set_option maxRecDepth 20000 in
theorem tw_1458 : (.selects RX11 yX11_completion yX11_completion : Cond) ∈ lw_tbl := t4_in (List.mem_of_getElem? (i := 130) rfl)
set_option maxRecDepth 20000 in
theorem tw_1459 : (.code yX11_completion cX11_completion 4 (some .int) : Cond) ∈ lw_tbl := t4_in (List.mem_of_getElem? (i := 131) rfl)
set_option maxRecDepth 20000 in
theorem tw_1460 : (.methodLink RX11 295 yX4_figure : Cond) ∈ lw_tbl := t4_in (List.mem_of_getElem? (i := 132) rfl)
set_option maxRecDepth 20000 in
theorem tw_1461 : (.instanceMethod yX4_figure : Cond) ∈ lw_tbl := t4_in (List.mem_of_getElem? (i := 133) rfl)
set_option maxRecDepth 20000 in
theorem tw_1462 : (.selects RX4 yX4_figure yX4_figure : Cond) ∈ lw_tbl := t4_in (List.mem_of_getElem? (i := 134) rfl)
set_option maxRecDepth 20000 in
theorem tw_1463 : (.code yX4_figure cX4_figure 2 (some .int) : Cond) ∈ lw_tbl := t4_in (List.mem_of_getElem? (i := 135) rfl)
set_option maxRecDepth 20000 in
theorem tw_1464 : (.methodLink RX4 53 yX9_at : Cond) ∈ lw_tbl := t4_in (List.mem_of_getElem? (i := 136) rfl)
set_option maxRecDepth 20000 in
theorem tw_1465 : (.methodLink RL 154 yX12_completion : Cond) ∈ lw_tbl := t8_in (List.mem_of_getElem? (i := 169) rfl)
set_option maxRecDepth 20000 in
theorem tw_1466 : (.instanceMethod yX12_completion : Cond) ∈ lw_tbl := t8_in (List.mem_of_getElem? (i := 170) rfl)
set_option maxRecDepth 20000 in
theorem tw_1467 : (.selects RX12 yX12_completion yX12_completion : Cond) ∈ lw_tbl := t8_in (List.mem_of_getElem? (i := 171) rfl)
set_option maxRecDepth 20000 in
theorem tw_1468 : (.code yX12_completion cX12_completion 4 (some .int) : Cond) ∈ lw_tbl := t8_in (List.mem_of_getElem? (i := 172) rfl)
set_option maxRecDepth 20000 in
theorem tw_1469 : (.methodLink RL 155 yX11_take : Cond) ∈ lw_tbl := t4_in (List.mem_of_getElem? (i := 120) rfl)
set_option maxRecDepth 20000 in
theorem tw_1470 : (.instanceMethod yX11_take : Cond) ∈ lw_tbl := t4_in (List.mem_of_getElem? (i := 121) rfl)
set_option maxRecDepth 20000 in
theorem tw_1471 : (.selects RX11 yX11_take yX11_take : Cond) ∈ lw_tbl := t4_in (List.mem_of_getElem? (i := 122) rfl)
set_option maxRecDepth 20000 in
theorem tw_1472 : (.code yX11_take cX11_take 3 (some .boolean) : Cond) ∈ lw_tbl := t4_in (List.mem_of_getElem? (i := 123) rfl)
set_option maxRecDepth 20000 in
theorem tw_1473 : (.methodLink RX11 273 yX4_dropFirst : Cond) ∈ lw_tbl := t4_in (List.mem_of_getElem? (i := 124) rfl)
set_option maxRecDepth 20000 in
theorem tw_1474 : (.instanceMethod yX4_dropFirst : Cond) ∈ lw_tbl := t4_in (List.mem_of_getElem? (i := 125) rfl)
set_option maxRecDepth 20000 in
theorem tw_1475 : (.selects RX4 yX4_dropFirst yX4_dropFirst : Cond) ∈ lw_tbl := t4_in (List.mem_of_getElem? (i := 126) rfl)
set_option maxRecDepth 20000 in
theorem tw_1476 : (.code yX4_dropFirst cX4_dropFirst 1 (some .boolean) : Cond) ∈ lw_tbl := t4_in (List.mem_of_getElem? (i := 127) rfl)
set_option maxRecDepth 20000 in
theorem tw_1477 : (.methodLink RL 158 yX12_take : Cond) ∈ lw_tbl := t8_in (List.mem_of_getElem? (i := 176) rfl)
set_option maxRecDepth 20000 in
theorem tw_1478 : (.instanceMethod yX12_take : Cond) ∈ lw_tbl := t8_in (List.mem_of_getElem? (i := 177) rfl)
set_option maxRecDepth 20000 in
theorem tw_1479 : (.selects RX12 yX12_take yX12_take : Cond) ∈ lw_tbl := t8_in (List.mem_of_getElem? (i := 178) rfl)
set_option maxRecDepth 20000 in
theorem tw_1480 : (.code yX12_take cX12_take 4 (some .boolean) : Cond) ∈ lw_tbl := t8_in (List.mem_of_getElem? (i := 179) rfl)
set_option maxRecDepth 20000 in
theorem tw_1481 : (.classLink RL 8 RX11 : Cond) ∈ lw_tbl := t1_in (List.mem_of_getElem? (i := 21) rfl)
set_option maxRecDepth 20000 in
theorem tw_1482 : (.instantiable RX11 5 : Cond) ∈ lw_tbl := t1_in (List.mem_of_getElem? (i := 22) rfl)
set_option maxRecDepth 20000 in
theorem tw_1483 : (.classLink RL 34 RX12 : Cond) ∈ lw_tbl := t7_in (List.mem_of_getElem? (i := 17) rfl)
set_option maxRecDepth 20000 in
theorem tw_1484 : (.instantiable RX12 123 : Cond) ∈ lw_tbl := t7_in (List.mem_of_getElem? (i := 18) rfl)
set_option maxRecDepth 20000 in
theorem tw_1485 : (.methodLink RL 31 yX11_init : Cond) ∈ lw_tbl := t1_in (List.mem_of_getElem? (i := 23) rfl)
set_option maxRecDepth 20000 in
theorem tw_1486 : (.instanceMethod yX11_init : Cond) ∈ lw_tbl := t1_in (List.mem_of_getElem? (i := 24) rfl)
set_option maxRecDepth 20000 in
theorem tw_1487 : (.code yX11_init cX11_init 6 none : Cond) ∈ lw_tbl := t1_in (List.mem_of_getElem? (i := 25) rfl)
set_option maxRecDepth 20000 in
theorem tw_1488 : (.methodLink RX11 1 Lib.objectInit : Cond) ∈ lw_tbl := t1_in (List.mem_of_getElem? (i := 26) rfl)
set_option maxRecDepth 20000 in
theorem tw_1489 : (.instanceMethod Lib.objectInit : Cond) ∈ lw_tbl := t1_in (List.mem_of_getElem? (i := 27) rfl)
set_option maxRecDepth 20000 in
theorem tw_1490 : (.code Lib.objectInit ⟨#[0xb1]⟩ 1 none : Cond) ∈ lw_tbl := t1_in (List.mem_of_getElem? (i := 28) rfl)
set_option maxRecDepth 20000 in
theorem tw_1491 : (.classLink RX11 7 RX3 : Cond) ∈ lw_tbl := t1_in (List.mem_of_getElem? (i := 29) rfl)
set_option maxRecDepth 20000 in
theorem tw_1492 : (.classLink RX11 15 RX0 : Cond) ∈ lw_tbl := t1_in (List.mem_of_getElem? (i := 31) rfl)
set_option maxRecDepth 20000 in
theorem tw_1493 : (.instantiable RX0 10 : Cond) ∈ lw_tbl := t1_in (List.mem_of_getElem? (i := 32) rfl)
set_option maxRecDepth 20000 in
theorem tw_1494 : (.methodLink RX11 17 yX0_init : Cond) ∈ lw_tbl := t1_in (List.mem_of_getElem? (i := 33) rfl)
set_option maxRecDepth 20000 in
theorem tw_1495 : (.instanceMethod yX0_init : Cond) ∈ lw_tbl := t1_in (List.mem_of_getElem? (i := 34) rfl)
set_option maxRecDepth 20000 in
theorem tw_1496 : (.code yX0_init cX0_init 2 none : Cond) ∈ lw_tbl := t1_in (List.mem_of_getElem? (i := 35) rfl)
set_option maxRecDepth 20000 in
theorem tw_1497 : (.methodLink RX0 3 Lib.objectInit : Cond) ∈ lw_tbl := t1_in (List.mem_of_getElem? (i := 36) rfl)
set_option maxRecDepth 20000 in
theorem tw_1498 : (.classLink RX0 11 RX9 : Cond) ∈ lw_tbl := t1_in (List.mem_of_getElem? (i := 37) rfl)
set_option maxRecDepth 20000 in
theorem tw_1499 : (.arrayClass .int : Cond) ∈ lw_tbl := t1_in (List.mem_of_getElem? (i := 66) rfl)
set_option maxRecDepth 20000 in
theorem tw_1500 : (.classLink RX0 21 "[[I" : Cond) ∈ lw_tbl := t1_in (List.mem_of_getElem? (i := 39) rfl)
set_option maxRecDepth 20000 in
theorem tw_1501 : (.instantiable RX9 2 : Cond) ∈ lw_tbl := t1_in (List.mem_of_getElem? (i := 41) rfl)
set_option maxRecDepth 20000 in
theorem tw_1502 : (.methodLink RX0 32 yX9_init : Cond) ∈ lw_tbl := t1_in (List.mem_of_getElem? (i := 42) rfl)
set_option maxRecDepth 20000 in
theorem tw_1503 : (.instanceMethod yX9_init : Cond) ∈ lw_tbl := t1_in (List.mem_of_getElem? (i := 43) rfl)
set_option maxRecDepth 20000 in
theorem tw_1504 : (.code yX9_init cX9_init 2 none : Cond) ∈ lw_tbl := t1_in (List.mem_of_getElem? (i := 44) rfl)
set_option maxRecDepth 20000 in
theorem tw_1505 : (.methodLink RX9 3 Lib.objectInit : Cond) ∈ lw_tbl := t1_in (List.mem_of_getElem? (i := 45) rfl)
set_option maxRecDepth 20000 in
theorem tw_1506 : (.classLink RX11 22 RX9 : Cond) ∈ lw_tbl := t1_in (List.mem_of_getElem? (i := 101) rfl)
set_option maxRecDepth 20000 in
theorem tw_1507 : (.methodLink RX11 24 yX9_init : Cond) ∈ lw_tbl := t1_in (List.mem_of_getElem? (i := 102) rfl)
set_option maxRecDepth 20000 in
theorem tw_1508 : (.classLink RX11 34 RX1 : Cond) ∈ lw_tbl := t1_in (List.mem_of_getElem? (i := 103) rfl)
set_option maxRecDepth 20000 in
theorem tw_1509 : (.instantiable RX1 2 : Cond) ∈ lw_tbl := t1_in (List.mem_of_getElem? (i := 104) rfl)
set_option maxRecDepth 20000 in
theorem tw_1510 : (.instanceMethod yX1_init : Cond) ∈ lw_tbl := t1_in (List.mem_of_getElem? (i := 106) rfl)
set_option maxRecDepth 20000 in
theorem tw_1511 : (.code yX1_init cX1_init 1 none : Cond) ∈ lw_tbl := t1_in (List.mem_of_getElem? (i := 107) rfl)
set_option maxRecDepth 20000 in
theorem tw_1512 : (.methodLink RX1 1 Lib.objectInit : Cond) ∈ lw_tbl := t1_in (List.mem_of_getElem? (i := 108) rfl)
set_option maxRecDepth 20000 in
theorem tw_1513 : (.instantiable RX3 19 : Cond) ∈ lw_tbl := t1_in (List.mem_of_getElem? (i := 116) rfl)
set_option maxRecDepth 20000 in
theorem tw_1514 : (.methodLink RX11 39 yX3_init : Cond) ∈ lw_tbl := t1_in (List.mem_of_getElem? (i := 118) rfl)
set_option maxRecDepth 20000 in
theorem tw_1515 : (.instanceMethod yX3_init : Cond) ∈ lw_tbl := t1_in (List.mem_of_getElem? (i := 119) rfl)
set_option maxRecDepth 20000 in
theorem tw_1516 : (.code yX3_init cX3_init 5 none : Cond) ∈ lw_tbl := t1_in (List.mem_of_getElem? (i := 120) rfl)
set_option maxRecDepth 20000 in
theorem tw_1517 : (.methodLink RX3 3 Lib.objectInit : Cond) ∈ lw_tbl := t1_in (List.mem_of_getElem? (i := 121) rfl)
set_option maxRecDepth 20000 in
theorem tw_1518 : (.classLink RX3 9 RX9 : Cond) ∈ lw_tbl := t1_in (List.mem_of_getElem? (i := 122) rfl)
set_option maxRecDepth 20000 in
theorem tw_1519 : (.methodLink RX3 11 yX9_init : Cond) ∈ lw_tbl := t1_in (List.mem_of_getElem? (i := 123) rfl)
set_option maxRecDepth 20000 in
theorem tw_1520 : (.fieldLink RX3 14 "LowEnergy$Device" "advertised" "LLowEnergy$Row;" : Cond) ∈ lw_tbl := t3_in (List.mem_of_getElem? (i := 17) rfl)
set_option maxRecDepth 20000 in
theorem tw_1521 : (.classLink RX3 23 RX6 : Cond) ∈ lw_tbl := t1_in (List.mem_of_getElem? (i := 124) rfl)
set_option maxRecDepth 20000 in
theorem tw_1522 : (.instantiable RX6 20 : Cond) ∈ lw_tbl := t1_in (List.mem_of_getElem? (i := 125) rfl)
set_option maxRecDepth 20000 in
theorem tw_1523 : (.instanceMethod yX6_init : Cond) ∈ lw_tbl := t1_in (List.mem_of_getElem? (i := 127) rfl)
set_option maxRecDepth 20000 in
theorem tw_1524 : (.code yX6_init cX6_init 1 none : Cond) ∈ lw_tbl := t1_in (List.mem_of_getElem? (i := 128) rfl)
set_option maxRecDepth 20000 in
theorem tw_1525 : (.methodLink RX6 3 Lib.objectInit : Cond) ∈ lw_tbl := t1_in (List.mem_of_getElem? (i := 129) rfl)
set_option maxRecDepth 20000 in
theorem tw_1526 : (.classLink RX3 30 RX7 : Cond) ∈ lw_tbl := t1_in (List.mem_of_getElem? (i := 210) rfl)
set_option maxRecDepth 20000 in
theorem tw_1527 : (.instantiable RX7 16 : Cond) ∈ lw_tbl := t1_in (List.mem_of_getElem? (i := 211) rfl)
set_option maxRecDepth 20000 in
theorem tw_1528 : (.methodLink RX3 32 yX7_init : Cond) ∈ lw_tbl := t1_in (List.mem_of_getElem? (i := 212) rfl)
set_option maxRecDepth 20000 in
theorem tw_1529 : (.instanceMethod yX7_init : Cond) ∈ lw_tbl := t1_in (List.mem_of_getElem? (i := 213) rfl)
set_option maxRecDepth 20000 in
theorem tw_1530 : (.code yX7_init cX7_init 2 none : Cond) ∈ lw_tbl := t1_in (List.mem_of_getElem? (i := 214) rfl)
set_option maxRecDepth 20000 in
theorem tw_1531 : (.methodLink RX7 3 Lib.objectInit : Cond) ∈ lw_tbl := t1_in (List.mem_of_getElem? (i := 215) rfl)
set_option maxRecDepth 20000 in
theorem tw_1532 : (.classLink RX7 9 RX9 : Cond) ∈ lw_tbl := t1_in (List.mem_of_getElem? (i := 216) rfl)
set_option maxRecDepth 20000 in
theorem tw_1533 : (.methodLink RX7 11 yX9_init : Cond) ∈ lw_tbl := t1_in (List.mem_of_getElem? (i := 217) rfl)
set_option maxRecDepth 20000 in
theorem tw_1534 : (.classLink RX3 37 RX10 : Cond) ∈ lw_tbl := t2_in (List.mem_of_getElem? (i := 36) rfl)
set_option maxRecDepth 20000 in
theorem tw_1535 : (.instantiable RX10 10 : Cond) ∈ lw_tbl := t2_in (List.mem_of_getElem? (i := 37) rfl)
set_option maxRecDepth 20000 in
theorem tw_1536 : (.methodLink RX3 39 yX10_init : Cond) ∈ lw_tbl := t2_in (List.mem_of_getElem? (i := 38) rfl)
set_option maxRecDepth 20000 in
theorem tw_1537 : (.instanceMethod yX10_init : Cond) ∈ lw_tbl := t2_in (List.mem_of_getElem? (i := 39) rfl)
set_option maxRecDepth 20000 in
theorem tw_1538 : (.code yX10_init cX10_init 2 none : Cond) ∈ lw_tbl := t2_in (List.mem_of_getElem? (i := 40) rfl)
set_option maxRecDepth 20000 in
theorem tw_1539 : (.methodLink RX10 3 Lib.objectInit : Cond) ∈ lw_tbl := t2_in (List.mem_of_getElem? (i := 41) rfl)
set_option maxRecDepth 20000 in
theorem tw_1540 : (.classLink RX10 18 RX9 : Cond) ∈ lw_tbl := t2_in (List.mem_of_getElem? (i := 42) rfl)
set_option maxRecDepth 20000 in
theorem tw_1541 : (.methodLink RX10 37 yX9_init : Cond) ∈ lw_tbl := t2_in (List.mem_of_getElem? (i := 43) rfl)
set_option maxRecDepth 20000 in
theorem tw_1542 : (.classLink RX3 44 RX2 : Cond) ∈ lw_tbl := t2_in (List.mem_of_getElem? (i := 82) rfl)
set_option maxRecDepth 20000 in
theorem tw_1543 : (.instantiable RX2 6 : Cond) ∈ lw_tbl := t2_in (List.mem_of_getElem? (i := 83) rfl)
set_option maxRecDepth 20000 in
theorem tw_1544 : (.instanceMethod yX2_init : Cond) ∈ lw_tbl := t2_in (List.mem_of_getElem? (i := 85) rfl)
set_option maxRecDepth 20000 in
theorem tw_1545 : (.code yX2_init cX2_init 1 none : Cond) ∈ lw_tbl := t2_in (List.mem_of_getElem? (i := 86) rfl)
set_option maxRecDepth 20000 in
theorem tw_1546 : (.methodLink RX2 3 Lib.objectInit : Cond) ∈ lw_tbl := t2_in (List.mem_of_getElem? (i := 87) rfl)
set_option maxRecDepth 20000 in
theorem tw_1547 : (.classLink RX2 15 RX9 : Cond) ∈ lw_tbl := t2_in (List.mem_of_getElem? (i := 88) rfl)
set_option maxRecDepth 20000 in
theorem tw_1548 : (.methodLink RX2 17 yX9_init : Cond) ∈ lw_tbl := t2_in (List.mem_of_getElem? (i := 89) rfl)
set_option maxRecDepth 20000 in
theorem tw_1549 : (.classLink RX3 51 RX4 : Cond) ∈ lw_tbl := t2_in (List.mem_of_getElem? (i := 112) rfl)
set_option maxRecDepth 20000 in
theorem tw_1550 : (.instantiable RX4 6 : Cond) ∈ lw_tbl := t2_in (List.mem_of_getElem? (i := 113) rfl)
set_option maxRecDepth 20000 in
theorem tw_1551 : (.methodLink RX3 53 yX4_init : Cond) ∈ lw_tbl := t2_in (List.mem_of_getElem? (i := 114) rfl)
set_option maxRecDepth 20000 in
theorem tw_1552 : (.instanceMethod yX4_init : Cond) ∈ lw_tbl := t2_in (List.mem_of_getElem? (i := 115) rfl)
set_option maxRecDepth 20000 in
theorem tw_1553 : (.code yX4_init cX4_init 2 none : Cond) ∈ lw_tbl := t2_in (List.mem_of_getElem? (i := 116) rfl)
set_option maxRecDepth 20000 in
theorem tw_1554 : (.methodLink RX4 3 Lib.objectInit : Cond) ∈ lw_tbl := t2_in (List.mem_of_getElem? (i := 117) rfl)
set_option maxRecDepth 20000 in
theorem tw_1555 : (.classLink RX4 15 "[[I" : Cond) ∈ lw_tbl := t2_in (List.mem_of_getElem? (i := 118) rfl)
set_option maxRecDepth 20000 in
theorem tw_1556 : (.classLink RX4 20 RX9 : Cond) ∈ lw_tbl := t2_in (List.mem_of_getElem? (i := 119) rfl)
set_option maxRecDepth 20000 in
theorem tw_1557 : (.methodLink RX4 26 yX9_init : Cond) ∈ lw_tbl := t2_in (List.mem_of_getElem? (i := 120) rfl)
set_option maxRecDepth 20000 in
theorem tw_1558 : (.fieldLink RX3 61 "LowEnergy$Device" "index" "I" : Cond) ∈ lw_tbl := t3_in (List.mem_of_getElem? (i := 5) rfl)
set_option maxRecDepth 20000 in
theorem tw_1559 : (.classLink RX3 72 RX5 : Cond) ∈ lw_tbl := t2_in (List.mem_of_getElem? (i := 142) rfl)
set_option maxRecDepth 20000 in
theorem tw_1560 : (.instantiable RX5 16 : Cond) ∈ lw_tbl := t2_in (List.mem_of_getElem? (i := 143) rfl)
set_option maxRecDepth 20000 in
theorem tw_1561 : (.methodLink RX3 74 yX5_init : Cond) ∈ lw_tbl := t2_in (List.mem_of_getElem? (i := 144) rfl)
set_option maxRecDepth 20000 in
theorem tw_1562 : (.instanceMethod yX5_init : Cond) ∈ lw_tbl := t2_in (List.mem_of_getElem? (i := 145) rfl)
set_option maxRecDepth 20000 in
theorem tw_1563 : (.code yX5_init cX5_init 2 none : Cond) ∈ lw_tbl := t2_in (List.mem_of_getElem? (i := 146) rfl)
set_option maxRecDepth 20000 in
theorem tw_1564 : (.methodLink RX5 1 Lib.objectInit : Cond) ∈ lw_tbl := t2_in (List.mem_of_getElem? (i := 147) rfl)
set_option maxRecDepth 20000 in
theorem tw_1565 : (.classLink RX3 81 RX8 : Cond) ∈ lw_tbl := t2_in (List.mem_of_getElem? (i := 211) rfl)
set_option maxRecDepth 20000 in
theorem tw_1566 : (.instantiable RX8 8 : Cond) ∈ lw_tbl := t2_in (List.mem_of_getElem? (i := 212) rfl)
set_option maxRecDepth 20000 in
theorem tw_1567 : (.methodLink RX3 83 yX8_init : Cond) ∈ lw_tbl := t2_in (List.mem_of_getElem? (i := 213) rfl)
set_option maxRecDepth 20000 in
theorem tw_1568 : (.instanceMethod yX8_init : Cond) ∈ lw_tbl := t2_in (List.mem_of_getElem? (i := 214) rfl)
set_option maxRecDepth 20000 in
theorem tw_1569 : (.code yX8_init cX8_init 2 none : Cond) ∈ lw_tbl := t2_in (List.mem_of_getElem? (i := 215) rfl)
set_option maxRecDepth 20000 in
theorem tw_1570 : (.methodLink RX8 3 Lib.objectInit : Cond) ∈ lw_tbl := t2_in (List.mem_of_getElem? (i := 216) rfl)
set_option maxRecDepth 20000 in
theorem tw_1571 : (.methodLink RL 36 yX12_init : Cond) ∈ lw_tbl := t7_in (List.mem_of_getElem? (i := 19) rfl)
set_option maxRecDepth 20000 in
theorem tw_1572 : (.instanceMethod yX12_init : Cond) ∈ lw_tbl := t7_in (List.mem_of_getElem? (i := 20) rfl)
set_option maxRecDepth 20000 in
theorem tw_1573 : (.code yX12_init cX12_init 6 none : Cond) ∈ lw_tbl := t7_in (List.mem_of_getElem? (i := 21) rfl)
set_option maxRecDepth 20000 in
theorem tw_1574 : (.methodLink RX12 39 objectInit : Cond) ∈ lw_tbl := t7_in (List.mem_of_getElem? (i := 22) rfl)
set_option maxRecDepth 20000 in
theorem tw_1575 : (.instanceMethod objectInit : Cond) ∈ lw_tbl := t1_in (List.mem_of_getElem? (i := 27) rfl)
set_option maxRecDepth 20000 in
theorem tw_1576 : (.code objectInit ⟨#[0xb1]⟩ 1 none : Cond) ∈ lw_tbl := t1_in (List.mem_of_getElem? (i := 28) rfl)
set_option maxRecDepth 20000 in
theorem tw_1577 : (.arrayClass .byte : Cond) ∈ lw_tbl := t5_in (List.mem_of_getElem? (i := 5) rfl)
set_option maxRecDepth 20000 in
theorem tw_1578 : (.arrayClass .long : Cond) ∈ lw_tbl := t8_in (List.mem_of_getElem? (i := 167) rfl)
set_option maxRecDepth 20000 in
theorem tw_1579 : (.arrayClass .boolean : Cond) ∈ lw_tbl := t8_in (List.mem_of_getElem? (i := 168) rfl)
set_option maxRecDepth 20000 in
theorem tw_1580 : (.methodLink RX12 386 yX12_fillBox : Cond) ∈ lw_tbl := t7_in (List.mem_of_getElem? (i := 23) rfl)
set_option maxRecDepth 20000 in
theorem tw_1581 : (.instanceMethod yX12_fillBox : Cond) ∈ lw_tbl := t7_in (List.mem_of_getElem? (i := 25) rfl)
set_option maxRecDepth 20000 in
theorem tw_1582 : (.selects RX12 yX12_fillBox yX12_fillBox : Cond) ∈ lw_tbl := sel3_in (List.mem_of_getElem? (i := 14) rfl)
set_option maxRecDepth 20000 in
theorem tw_1583 : (.code yX12_fillBox cX12_fillBox 5 none : Cond) ∈ lw_tbl := t7_in (List.mem_of_getElem? (i := 26) rfl)
set_option maxRecDepth 20000 in
theorem tw_1584 : (.methodLink RX12 18 yX12_times : Cond) ∈ lw_tbl := t7_in (List.mem_of_getElem? (i := 27) rfl)
set_option maxRecDepth 20000 in
theorem tw_1585 : (.static yX12_times : Cond) ∈ lw_tbl := t7_in (List.mem_of_getElem? (i := 28) rfl)
set_option maxRecDepth 20000 in
theorem tw_1586 : (.code yX12_times cX12_times 5 (some .int) : Cond) ∈ lw_tbl := t7_in (List.mem_of_getElem? (i := 29) rfl)
set_option maxRecDepth 20000 in
theorem tw_1587 : (.methodLink RL 25 yL_cell : Cond) ∈ lw_tbl := t4_in (List.mem_of_getElem? (i := 168) rfl)
set_option maxRecDepth 20000 in
theorem tw_1588 : (.static yL_cell : Cond) ∈ lw_tbl := t4_in (List.mem_of_getElem? (i := 169) rfl)
set_option maxRecDepth 20000 in
theorem tw_1589 : (.code yL_cell cL_cell 2 (some .int) : Cond) ∈ lw_tbl := t4_in (List.mem_of_getElem? (i := 170) rfl)
theorem fm_in {ws : List Cond} (ps : List Nat) (hp : ws = ps.filterMap (fun i => lw_tbl[i]?)) : ∀ w ∈ ws, w ∈ lw_tbl := by
  intro w hw
  rw [hp] at hw
  obtain ⟨i, -, hi⟩ := List.mem_filterMap.mp hw
  exact List.mem_of_getElem? hi
set_option maxRecDepth 100000 in
theorem in_X0 : ∀ x ∈ u_ws RX0 TX0 10, x ∈ lw_tbl := fm_in [196, 198, 200, 202, 204, 206, 208, 210, 212, 214] (by decide +kernel)
set_option maxRecDepth 100000 in
theorem in_X1 : ∀ x ∈ u_ws RX1 TX1 2, x ∈ lw_tbl := fm_in [227, 229] (by decide +kernel)
set_option maxRecDepth 100000 in
theorem in_X2 : ∀ x ∈ u_ws RX2 TX2 6, x ∈ lw_tbl := fm_in [455, 457, 459, 461, 463, 465] (by decide +kernel)
set_option maxRecDepth 100000 in
theorem in_X3 : ∀ x ∈ u_ws RX3 TX3 19, x ∈ lw_tbl := fm_in [641, 643, 645, 647, 649, 651, 653, 655, 657, 659, 661, 663, 665, 667, 669, 671, 673, 675, 677] (by decide +kernel)
set_option maxRecDepth 100000 in
theorem in_X4 : ∀ x ∈ u_ws RX4 TX4 6, x ∈ lw_tbl := fm_in [485, 487, 489, 491, 493, 495] (by decide +kernel)
set_option maxRecDepth 100000 in
theorem in_X5 : ∀ x ∈ u_ws RX5 TX5 16, x ∈ lw_tbl := fm_in [534, 536, 538, 540, 542, 544, 546, 548, 550, 552, 554, 556, 558, 560, 562, 564] (by decide +kernel)
set_option maxRecDepth 100000 in
theorem in_X6 : ∀ x ∈ u_ws RX6 TX6 20, x ∈ lw_tbl := fm_in [285, 287, 289, 291, 293, 295, 297, 299, 301, 303, 305, 307, 309, 311, 313, 315, 317, 319, 321, 323] (by decide +kernel)
set_option maxRecDepth 100000 in
theorem in_X7 : ∀ x ∈ u_ws RX7 TX7 16, x ∈ lw_tbl := fm_in [359, 361, 363, 365, 367, 369, 371, 373, 375, 377, 379, 381, 383, 385, 387, 389] (by decide +kernel)
set_option maxRecDepth 100000 in
theorem in_X8 : ∀ x ∈ u_ws RX8 TX8 8, x ∈ lw_tbl := fm_in [584, 586, 588, 590, 592, 594, 596, 598] (by decide +kernel)
set_option maxRecDepth 100000 in
theorem in_X9 : ∀ x ∈ u_ws RX9 TX9 2, x ∈ lw_tbl := fm_in [177, 179] (by decide +kernel)
set_option maxRecDepth 100000 in
theorem in_X10 : ∀ x ∈ u_ws RX10 TX10 10, x ∈ lw_tbl := fm_in [417, 419, 421, 423, 425, 427, 429, 431, 433, 435] (by decide +kernel)
set_option maxRecDepth 100000 in
theorem in_X11 : ∀ x ∈ u_ws RX11 TX11 5, x ∈ lw_tbl := fm_in [685, 687, 689, 691, 693] (by decide +kernel)
set_option maxRecDepth 100000 in
theorem in_X12 : ∀ x ∈ u_ws RX12 TX12 123, x ∈ lw_tbl := fm_in [1716, 1718, 1720, 1722, 1724, 1726, 1728, 1730, 1732, 1734, 1736, 1738, 1740, 1742, 1744, 1746, 1748, 1750, 1752, 1754, 1756, 1758, 1760, 1762, 1764, 1766, 1768, 1770, 1772, 1774, 1776, 1778, 1780, 1782, 1784, 1786, 1788, 1790, 1792, 1794, 1796, 1798, 1800, 1802, 1804, 1806, 1808, 1810, 1812, 1814, 1816, 1818, 1820, 1822, 1824, 1826, 1828, 1830, 1832, 1834, 1836, 1838, 1840, 1842, 1844, 1846, 1848, 1850, 1852, 1854, 1856, 1858, 1860, 1862, 1864, 1866, 1868, 1870, 1872, 1874, 1876, 1878, 1880, 1882, 1884, 1886, 1888, 1890, 1892, 1894, 1896, 1898, 1900, 1902, 1904, 1906, 1908, 1910, 1912, 1914, 1916, 1918, 1920, 1922, 1924, 1926, 1928, 1930, 1932, 1934, 1936, 1938, 1940, 1942, 1944, 1946, 1948, 1950, 1952, 1954, 1956, 1958, 1960] (by decide +kernel)
theorem in_E0 : ∀ x ∈ wsE00, x ∈ lw_tbl := by decide +kernel
theorem in_E1 : ∀ x ∈ wsE10, x ∈ lw_tbl := by decide +kernel
set_option maxRecDepth 100000 in
theorem in_nest : ∀ x ∈ nestL, x ∈ lw_tbl := fm_in [631, 575, 621, 633, 407, 626, 346, 260, 267, 262, 629, 508, 523, 521, 518, 516, 510, 514, 578, 640, 635, 448, 454, 410, 415, 638, 257, 618, 605, 620, 506, 512, 616, 404, 482, 484, 270, 276, 278, 251, 255, 253, 265, 272, 344, 350, 337, 335, 529, 531, 413, 168, 194, 602, 190, 192, 247, 249, 281, 525, 274, 527, 355, 357, 610, 608, 611, 612, 614, 623, 282, 173, 166, 406, 171, 409, 264, 343, 520, 175, 284, 246, 248, 339, 577, 447, 170, 176, 174, 628, 604, 624, 283, 606, 169, 637, 172, 221, 242, 440] (by decide +kernel)
