theorem t1_in {w : Cond} (h : w ∈ tables_1_1) : w ∈ lw_tbl := List.mem_append_right _ (List.mem_append_left _ h)
theorem t2_in {w : Cond} (h : w ∈ tables_1_2) : w ∈ lw_tbl := List.mem_append_right _ (List.mem_append_right _ (List.mem_append_left _ h))
theorem t3_in {w : Cond} (h : w ∈ tables_1_3) : w ∈ lw_tbl := List.mem_append_right _ (List.mem_append_right _ (List.mem_append_right _ (List.mem_append_left _ h)))
theorem t4_in {w : Cond} (h : w ∈ tables_1_4) : w ∈ lw_tbl := List.mem_append_right _ (List.mem_append_right _ (List.mem_append_right _ (List.mem_append_right _ (List.mem_append_left _ h))))
theorem t5_in {w : Cond} (h : w ∈ tables_1_5) : w ∈ lw_tbl := List.mem_append_right _ (List.mem_append_right _ (List.mem_append_right _ (List.mem_append_right _ (List.mem_append_right _ (List.mem_append_left _ h)))))
theorem t6_in {w : Cond} (h : w ∈ tables_1_6) : w ∈ lw_tbl := List.mem_append_right _ (List.mem_append_right _ (List.mem_append_right _ (List.mem_append_right _ (List.mem_append_right _ (List.mem_append_right _ (List.mem_append_left _ h))))))
theorem t7_in {w : Cond} (h : w ∈ tables_1_7) : w ∈ lw_tbl := List.mem_append_right _ (List.mem_append_right _ (List.mem_append_right _ (List.mem_append_right _ (List.mem_append_right _ (List.mem_append_right _ (List.mem_append_right _ (List.mem_append_left _ h)))))))
theorem t8_in {w : Cond} (h : w ∈ tables_1_8) : w ∈ lw_tbl := List.mem_append_right _ (List.mem_append_right _ (List.mem_append_right _ (List.mem_append_right _ (List.mem_append_right _ (List.mem_append_right _ (List.mem_append_right _ (List.mem_append_right _ (List.mem_append_left _ h))))))))
theorem t9_in {w : Cond} (h : w ∈ tables_1_9) : w ∈ lw_tbl := List.mem_append_right _ (List.mem_append_right _ (List.mem_append_right _ (List.mem_append_right _ (List.mem_append_right _ (List.mem_append_right _ (List.mem_append_right _ (List.mem_append_right _ (List.mem_append_right _ (List.mem_append_left _ h)))))))))
theorem t10_in {w : Cond} (h : w ∈ tables_1_10) : w ∈ lw_tbl := List.mem_append_right _ (List.mem_append_right _ (List.mem_append_right _ (List.mem_append_right _ (List.mem_append_right _ (List.mem_append_right _ (List.mem_append_right _ (List.mem_append_right _ (List.mem_append_right _ (List.mem_append_right _ (h))))))))))
theorem sel1_in {q : MethodName × Nat} (h : q ∈ lw_privs_1) : Cond.selects q.1.cls q.1 q.1 ∈ lw_tbl := List.mem_append_left _ (List.mem_map.mpr ⟨q, (List.mem_append_left _ h : q ∈ lw_privs), rfl⟩)
theorem sel2_in {q : MethodName × Nat} (h : q ∈ lw_privs_2) : Cond.selects q.1.cls q.1 q.1 ∈ lw_tbl := List.mem_append_left _ (List.mem_map.mpr ⟨q, (List.mem_append_right _ (List.mem_append_left _ h) : q ∈ lw_privs), rfl⟩)
theorem sel3_in {q : MethodName × Nat} (h : q ∈ lw_privs_3) : Cond.selects q.1.cls q.1 q.1 ∈ lw_tbl := List.mem_append_left _ (List.mem_map.mpr ⟨q, (List.mem_append_right _ (List.mem_append_right _ (List.mem_append_left _ h)) : q ∈ lw_privs), rfl⟩)
theorem sel4_in {q : MethodName × Nat} (h : q ∈ lw_privs_4) : Cond.selects q.1.cls q.1 q.1 ∈ lw_tbl := List.mem_append_left _ (List.mem_map.mpr ⟨q, (List.mem_append_right _ (List.mem_append_right _ (List.mem_append_right _ (List.mem_append_left _ h))) : q ∈ lw_privs), rfl⟩)
theorem sel5_in {q : MethodName × Nat} (h : q ∈ lw_privs_5) : Cond.selects q.1.cls q.1 q.1 ∈ lw_tbl := List.mem_append_left _ (List.mem_map.mpr ⟨q, (List.mem_append_right _ (List.mem_append_right _ (List.mem_append_right _ (List.mem_append_right _ (List.mem_append_left _ h)))) : q ∈ lw_privs), rfl⟩)
theorem sel6_in {q : MethodName × Nat} (h : q ∈ lw_privs_6) : Cond.selects q.1.cls q.1 q.1 ∈ lw_tbl := List.mem_append_left _ (List.mem_map.mpr ⟨q, (List.mem_append_right _ (List.mem_append_right _ (List.mem_append_right _ (List.mem_append_right _ (List.mem_append_right _ (List.mem_append_left _ h))))) : q ∈ lw_privs), rfl⟩)
theorem sel7_in {q : MethodName × Nat} (h : q ∈ lw_privs_7) : Cond.selects q.1.cls q.1 q.1 ∈ lw_tbl := List.mem_append_left _ (List.mem_map.mpr ⟨q, (List.mem_append_right _ (List.mem_append_right _ (List.mem_append_right _ (List.mem_append_right _ (List.mem_append_right _ (List.mem_append_right _ (List.mem_append_left _ h)))))) : q ∈ lw_privs), rfl⟩)
theorem sel8_in {q : MethodName × Nat} (h : q ∈ lw_privs_8) : Cond.selects q.1.cls q.1 q.1 ∈ lw_tbl := List.mem_append_left _ (List.mem_map.mpr ⟨q, (List.mem_append_right _ (List.mem_append_right _ (List.mem_append_right _ (List.mem_append_right _ (List.mem_append_right _ (List.mem_append_right _ (List.mem_append_right _ (h))))))) : q ∈ lw_privs), rfl⟩)
set_option maxRecDepth 20000 in
theorem tw_0 : (.classLink RL 8 RX11 : Cond) ∈ lw_tbl := t1_in (List.mem_of_getElem? (i := 21) rfl)
set_option maxRecDepth 20000 in
theorem tw_1 : (.instantiable RX11 5 : Cond) ∈ lw_tbl := t1_in (List.mem_of_getElem? (i := 22) rfl)
set_option maxRecDepth 20000 in
theorem tw_2 : (.initialized RX11 : Cond) ∈ lw_tbl := t1_in (List.mem_of_getElem? (i := 1) rfl)
set_option maxRecDepth 20000 in
theorem tw_3 : (.methodLink RL 25 yL_cell : Cond) ∈ lw_tbl := t4_in (List.mem_of_getElem? (i := 168) rfl)
set_option maxRecDepth 20000 in
theorem tw_4 : (.static yL_cell : Cond) ∈ lw_tbl := t4_in (List.mem_of_getElem? (i := 169) rfl)
set_option maxRecDepth 20000 in
theorem tw_5 : (.initialized RL : Cond) ∈ lw_tbl := t1_in (List.mem_of_getElem? (i := 0) rfl)
set_option maxRecDepth 20000 in
theorem tw_6 : (.code yL_cell cL_cell 2 (some .int) : Cond) ∈ lw_tbl := t4_in (List.mem_of_getElem? (i := 170) rfl)
set_option maxRecDepth 20000 in
theorem tw_7 : (.methodLink RL 31 yX11_init : Cond) ∈ lw_tbl := t1_in (List.mem_of_getElem? (i := 23) rfl)
set_option maxRecDepth 20000 in
theorem tw_8 : (.instanceMethod yX11_init : Cond) ∈ lw_tbl := t1_in (List.mem_of_getElem? (i := 24) rfl)
set_option maxRecDepth 20000 in
theorem tw_9 : (.code yX11_init cX11_init 6 none : Cond) ∈ lw_tbl := t1_in (List.mem_of_getElem? (i := 25) rfl)
set_option maxRecDepth 20000 in
theorem tw_10 : (.methodLink RX11 1 objectInit : Cond) ∈ lw_tbl := t1_in (List.mem_of_getElem? (i := 26) rfl)
set_option maxRecDepth 20000 in
theorem tw_11 : (.instanceMethod objectInit : Cond) ∈ lw_tbl := t1_in (List.mem_of_getElem? (i := 27) rfl)
set_option maxRecDepth 20000 in
theorem tw_12 : (.code objectInit ⟨#[0xb1]⟩ 1 none : Cond) ∈ lw_tbl := t1_in (List.mem_of_getElem? (i := 28) rfl)
set_option maxRecDepth 20000 in
theorem tw_13 : (.classLink RX11 7 RX3 : Cond) ∈ lw_tbl := t1_in (List.mem_of_getElem? (i := 29) rfl)
set_option maxRecDepth 20000 in
theorem tw_14 : (.fieldLink RX11 9 "LowEnergy" "devices" "[LLowEnergy$Device;" : Cond) ∈ lw_tbl := t3_in (List.mem_of_getElem? (i := 84) rfl)
set_option maxRecDepth 20000 in
theorem tw_15 : (.classLink RX11 15 RX0 : Cond) ∈ lw_tbl := t1_in (List.mem_of_getElem? (i := 31) rfl)
set_option maxRecDepth 20000 in
theorem tw_16 : (.instantiable RX0 10 : Cond) ∈ lw_tbl := t1_in (List.mem_of_getElem? (i := 32) rfl)
set_option maxRecDepth 20000 in
theorem tw_17 : (.initialized RX0 : Cond) ∈ lw_tbl := t1_in (List.mem_of_getElem? (i := 2) rfl)
set_option maxRecDepth 20000 in
theorem tw_18 : (.methodLink RX11 17 yX0_init : Cond) ∈ lw_tbl := t1_in (List.mem_of_getElem? (i := 33) rfl)
set_option maxRecDepth 20000 in
theorem tw_19 : (.instanceMethod yX0_init : Cond) ∈ lw_tbl := t1_in (List.mem_of_getElem? (i := 34) rfl)
set_option maxRecDepth 20000 in
theorem tw_20 : (.code yX0_init cX0_init 2 none : Cond) ∈ lw_tbl := t1_in (List.mem_of_getElem? (i := 35) rfl)
set_option maxRecDepth 20000 in
theorem tw_21 : (.methodLink RX0 3 objectInit : Cond) ∈ lw_tbl := t1_in (List.mem_of_getElem? (i := 36) rfl)
set_option maxRecDepth 20000 in
theorem tw_22 : (.classLink RX0 11 RX9 : Cond) ∈ lw_tbl := t1_in (List.mem_of_getElem? (i := 37) rfl)
set_option maxRecDepth 20000 in
theorem tw_23 : (.fieldLink RX0 13 "LowEnergy$Air" "packets" "[LLowEnergy$Row;" : Cond) ∈ lw_tbl := t1_in (List.mem_of_getElem? (i := 67) rfl)
set_option maxRecDepth 20000 in
theorem tw_24 : (.arrayClass .int : Cond) ∈ lw_tbl := t1_in (List.mem_of_getElem? (i := 66) rfl)
set_option maxRecDepth 20000 in
theorem tw_25 : (.fieldLink RX0 17 "LowEnergy$Air" "channels" "[I" : Cond) ∈ lw_tbl := t1_in (List.mem_of_getElem? (i := 68) rfl)
set_option maxRecDepth 20000 in
theorem tw_26 : (.classLink RX0 21 "[[I" : Cond) ∈ lw_tbl := t1_in (List.mem_of_getElem? (i := 39) rfl)
set_option maxRecDepth 20000 in
theorem tw_27 : (.fieldLink RX0 23 "LowEnergy$Air" "noises" "[[I" : Cond) ∈ lw_tbl := t1_in (List.mem_of_getElem? (i := 69) rfl)
set_option maxRecDepth 20000 in
theorem tw_28 : (.fieldLink RX0 26 "LowEnergy$Air" "noiseCounts" "[I" : Cond) ∈ lw_tbl := t1_in (List.mem_of_getElem? (i := 70) rfl)
set_option maxRecDepth 20000 in
theorem tw_29 : (.fieldLink RX0 29 "LowEnergy$Air" "losses" "[I" : Cond) ∈ lw_tbl := t1_in (List.mem_of_getElem? (i := 71) rfl)
set_option maxRecDepth 20000 in
theorem tw_30 : (.instantiable RX9 2 : Cond) ∈ lw_tbl := t1_in (List.mem_of_getElem? (i := 41) rfl)
set_option maxRecDepth 20000 in
theorem tw_31 : (.initialized RX9 : Cond) ∈ lw_tbl := t1_in (List.mem_of_getElem? (i := 3) rfl)
set_option maxRecDepth 20000 in
theorem tw_32 : (.methodLink RX0 32 yX9_init : Cond) ∈ lw_tbl := t1_in (List.mem_of_getElem? (i := 42) rfl)
set_option maxRecDepth 20000 in
theorem tw_33 : (.instanceMethod yX9_init : Cond) ∈ lw_tbl := t1_in (List.mem_of_getElem? (i := 43) rfl)
set_option maxRecDepth 20000 in
theorem tw_34 : (.code yX9_init cX9_init 2 none : Cond) ∈ lw_tbl := t1_in (List.mem_of_getElem? (i := 44) rfl)
set_option maxRecDepth 20000 in
theorem tw_35 : (.methodLink RX9 3 objectInit : Cond) ∈ lw_tbl := t1_in (List.mem_of_getElem? (i := 45) rfl)
set_option maxRecDepth 20000 in
theorem tw_36 : (.methodLink RX9 9 Lib.Math.max.name : Cond) ∈ lw_tbl := t1_in (List.mem_of_getElem? (i := 46) rfl)
set_option maxRecDepth 20000 in
theorem tw_37 : (.static Lib.Math.max.name : Cond) ∈ lw_tbl := t1_in (List.mem_of_getElem? (i := 47) rfl)
set_option maxRecDepth 20000 in
theorem tw_38 : (.initialized "java/lang/Math" : Cond) ∈ lw_tbl := t1_in (List.mem_of_getElem? (i := 4) rfl)
set_option maxRecDepth 20000 in
theorem tw_39 : (.code Lib.Math.max.name Lib.Math.max.code 2 (some .int) : Cond) ∈ lw_tbl := t1_in (List.mem_of_getElem? (i := 48) rfl)
set_option maxRecDepth 20000 in
theorem tw_40 : (.fieldLink RX9 15 "LowEnergy$Row" "bytes" "[I" : Cond) ∈ lw_tbl := t1_in (List.mem_of_getElem? (i := 49) rfl)
set_option maxRecDepth 20000 in
theorem tw_41 : (.fieldLink RX0 35 "LowEnergy$Air" "plain" "LLowEnergy$Row;" : Cond) ∈ lw_tbl := t1_in (List.mem_of_getElem? (i := 72) rfl)
set_option maxRecDepth 20000 in
theorem tw_42 : (.fieldLink RX0 39 "LowEnergy$Air" "payload" "LLowEnergy$Row;" : Cond) ∈ lw_tbl := t1_in (List.mem_of_getElem? (i := 73) rfl)
set_option maxRecDepth 20000 in
theorem tw_43 : (.fieldLink RX11 18 "LowEnergy" "sky" "LLowEnergy$Air;" : Cond) ∈ lw_tbl := t3_in (List.mem_of_getElem? (i := 85) rfl)
set_option maxRecDepth 20000 in
theorem tw_44 : (.classLink RX11 22 RX9 : Cond) ∈ lw_tbl := t1_in (List.mem_of_getElem? (i := 101) rfl)
set_option maxRecDepth 20000 in
theorem tw_45 : (.methodLink RX11 24 yX9_init : Cond) ∈ lw_tbl := t1_in (List.mem_of_getElem? (i := 102) rfl)
set_option maxRecDepth 20000 in
theorem tw_46 : (.fieldLink RX11 27 "LowEnergy" "tape" "LLowEnergy$Row;" : Cond) ∈ lw_tbl := t3_in (List.mem_of_getElem? (i := 86) rfl)
set_option maxRecDepth 20000 in
theorem tw_47 : (.fieldLink RX11 31 "LowEnergy" "outgoing" "LLowEnergy$Row;" : Cond) ∈ lw_tbl := t3_in (List.mem_of_getElem? (i := 87) rfl)
set_option maxRecDepth 20000 in
theorem tw_48 : (.classLink RX11 34 RX1 : Cond) ∈ lw_tbl := t1_in (List.mem_of_getElem? (i := 103) rfl)
set_option maxRecDepth 20000 in
theorem tw_49 : (.instantiable RX1 2 : Cond) ∈ lw_tbl := t1_in (List.mem_of_getElem? (i := 104) rfl)
set_option maxRecDepth 20000 in
theorem tw_50 : (.initialized RX1 : Cond) ∈ lw_tbl := t1_in (List.mem_of_getElem? (i := 5) rfl)
set_option maxRecDepth 20000 in
theorem tw_51 : (.instanceMethod yX1_init : Cond) ∈ lw_tbl := t1_in (List.mem_of_getElem? (i := 106) rfl)
set_option maxRecDepth 20000 in
theorem tw_52 : (.code yX1_init cX1_init 1 none : Cond) ∈ lw_tbl := t1_in (List.mem_of_getElem? (i := 107) rfl)
set_option maxRecDepth 20000 in
theorem tw_53 : (.methodLink RX1 1 objectInit : Cond) ∈ lw_tbl := t1_in (List.mem_of_getElem? (i := 108) rfl)
set_option maxRecDepth 20000 in
theorem tw_54 : (.fieldLink RX1 9 "LowEnergy$Cipher" "roundKeys" "[I" : Cond) ∈ lw_tbl := t1_in (List.mem_of_getElem? (i := 109) rfl)
set_option maxRecDepth 20000 in
theorem tw_55 : (.fieldLink RX1 13 "LowEnergy$Cipher" "moved" "[I" : Cond) ∈ lw_tbl := t1_in (List.mem_of_getElem? (i := 110) rfl)
set_option maxRecDepth 20000 in
theorem tw_56 : (.instantiable RX3 19 : Cond) ∈ lw_tbl := t1_in (List.mem_of_getElem? (i := 116) rfl)
set_option maxRecDepth 20000 in
theorem tw_57 : (.initialized RX3 : Cond) ∈ lw_tbl := t1_in (List.mem_of_getElem? (i := 6) rfl)
set_option maxRecDepth 20000 in
theorem tw_58 : (.constantLong RX11 37 (281474976710655) : Cond) ∈ lw_tbl := t1_in (List.mem_of_getElem? (i := 117) rfl)
set_option maxRecDepth 20000 in
theorem tw_59 : (.methodLink RX11 39 yX3_init : Cond) ∈ lw_tbl := t1_in (List.mem_of_getElem? (i := 118) rfl)
set_option maxRecDepth 20000 in
theorem tw_60 : (.instanceMethod yX3_init : Cond) ∈ lw_tbl := t1_in (List.mem_of_getElem? (i := 119) rfl)
set_option maxRecDepth 20000 in
theorem tw_61 : (.code yX3_init cX3_init 5 none : Cond) ∈ lw_tbl := t1_in (List.mem_of_getElem? (i := 120) rfl)
set_option maxRecDepth 20000 in
theorem tw_62 : (.methodLink RX3 3 objectInit : Cond) ∈ lw_tbl := t1_in (List.mem_of_getElem? (i := 121) rfl)
set_option maxRecDepth 20000 in
theorem tw_63 : (.classLink RX3 9 RX9 : Cond) ∈ lw_tbl := t1_in (List.mem_of_getElem? (i := 122) rfl)
set_option maxRecDepth 20000 in
theorem tw_64 : (.methodLink RX3 11 yX9_init : Cond) ∈ lw_tbl := t1_in (List.mem_of_getElem? (i := 123) rfl)
set_option maxRecDepth 20000 in
theorem tw_65 : (.fieldLink RX3 14 "LowEnergy$Device" "advertised" "LLowEnergy$Row;" : Cond) ∈ lw_tbl := t3_in (List.mem_of_getElem? (i := 17) rfl)
set_option maxRecDepth 20000 in
theorem tw_66 : (.fieldLink RX3 20 "LowEnergy$Device" "reportData" "LLowEnergy$Row;" : Cond) ∈ lw_tbl := t3_in (List.mem_of_getElem? (i := 23) rfl)
set_option maxRecDepth 20000 in
theorem tw_67 : (.classLink RX3 23 RX6 : Cond) ∈ lw_tbl := t1_in (List.mem_of_getElem? (i := 124) rfl)
set_option maxRecDepth 20000 in
theorem tw_68 : (.instantiable RX6 20 : Cond) ∈ lw_tbl := t1_in (List.mem_of_getElem? (i := 125) rfl)
set_option maxRecDepth 20000 in
theorem tw_69 : (.initialized RX6 : Cond) ∈ lw_tbl := t1_in (List.mem_of_getElem? (i := 7) rfl)
set_option maxRecDepth 20000 in
theorem tw_70 : (.instanceMethod yX6_init : Cond) ∈ lw_tbl := t1_in (List.mem_of_getElem? (i := 127) rfl)
set_option maxRecDepth 20000 in
theorem tw_71 : (.code yX6_init cX6_init 1 none : Cond) ∈ lw_tbl := t1_in (List.mem_of_getElem? (i := 128) rfl)
set_option maxRecDepth 20000 in
theorem tw_72 : (.methodLink RX6 3 objectInit : Cond) ∈ lw_tbl := t1_in (List.mem_of_getElem? (i := 129) rfl)
set_option maxRecDepth 20000 in
theorem tw_73 : (.fieldLink RX6 9 "LowEnergy$Link" "channel" "I" : Cond) ∈ lw_tbl := t1_in (List.mem_of_getElem? (i := 153) rfl)
set_option maxRecDepth 20000 in
theorem tw_74 : (.fieldLink RX6 15 "LowEnergy$Link" "reason" "I" : Cond) ∈ lw_tbl := t1_in (List.mem_of_getElem? (i := 163) rfl)
set_option maxRecDepth 20000 in
theorem tw_75 : (.fieldLink RX6 18 "LowEnergy$Link" "laterReason" "I" : Cond) ∈ lw_tbl := t1_in (List.mem_of_getElem? (i := 164) rfl)
set_option maxRecDepth 20000 in
theorem tw_76 : (.fieldLink RX3 26 "LowEnergy$Device" "link" "LLowEnergy$Link;" : Cond) ∈ lw_tbl := t3_in (List.mem_of_getElem? (i := 26) rfl)
set_option maxRecDepth 20000 in
theorem tw_77 : (.classLink RX3 30 RX7 : Cond) ∈ lw_tbl := t1_in (List.mem_of_getElem? (i := 210) rfl)
set_option maxRecDepth 20000 in
theorem tw_78 : (.instantiable RX7 16 : Cond) ∈ lw_tbl := t1_in (List.mem_of_getElem? (i := 211) rfl)
set_option maxRecDepth 20000 in
theorem tw_79 : (.initialized RX7 : Cond) ∈ lw_tbl := t1_in (List.mem_of_getElem? (i := 8) rfl)
set_option maxRecDepth 20000 in
theorem tw_80 : (.methodLink RX3 32 yX7_init : Cond) ∈ lw_tbl := t1_in (List.mem_of_getElem? (i := 212) rfl)
set_option maxRecDepth 20000 in
theorem tw_81 : (.instanceMethod yX7_init : Cond) ∈ lw_tbl := t1_in (List.mem_of_getElem? (i := 213) rfl)
set_option maxRecDepth 20000 in
theorem tw_82 : (.code yX7_init cX7_init 2 none : Cond) ∈ lw_tbl := t1_in (List.mem_of_getElem? (i := 214) rfl)
set_option maxRecDepth 20000 in
theorem tw_83 : (.methodLink RX7 3 objectInit : Cond) ∈ lw_tbl := t1_in (List.mem_of_getElem? (i := 215) rfl)
set_option maxRecDepth 20000 in
theorem tw_84 : (.classLink RX7 9 RX9 : Cond) ∈ lw_tbl := t1_in (List.mem_of_getElem? (i := 216) rfl)
set_option maxRecDepth 20000 in
theorem tw_85 : (.methodLink RX7 11 yX9_init : Cond) ∈ lw_tbl := t1_in (List.mem_of_getElem? (i := 217) rfl)
set_option maxRecDepth 20000 in
theorem tw_86 : (.fieldLink RX7 14 "LowEnergy$Mail" "current" "LLowEnergy$Row;" : Cond) ∈ lw_tbl := t1_in (List.mem_of_getElem? (i := 218) rfl)
set_option maxRecDepth 20000 in
theorem tw_87 : (.fieldLink RX7 20 "LowEnergy$Mail" "controls" "[LLowEnergy$Row;" : Cond) ∈ lw_tbl := t1_in (List.mem_of_getElem? (i := 224) rfl)
set_option maxRecDepth 20000 in
theorem tw_88 : (.fieldLink RX7 24 "LowEnergy$Mail" "messages" "[LLowEnergy$Row;" : Cond) ∈ lw_tbl := t1_in (List.mem_of_getElem? (i := 231) rfl)
set_option maxRecDepth 20000 in
theorem tw_89 : (.fieldLink RX7 27 "LowEnergy$Mail" "gathered" "LLowEnergy$Row;" : Cond) ∈ lw_tbl := t1_in (List.mem_of_getElem? (i := 236) rfl)
set_option maxRecDepth 20000 in
theorem tw_90 : (.fieldLink RX7 30 "LowEnergy$Mail" "letter" "LLowEnergy$Row;" : Cond) ∈ lw_tbl := t1_in (List.mem_of_getElem? (i := 238) rfl)
set_option maxRecDepth 20000 in
theorem tw_91 : (.fieldLink RX7 33 "LowEnergy$Mail" "spare" "LLowEnergy$Row;" : Cond) ∈ lw_tbl := t2_in (List.mem_of_getElem? (i := 2) rfl)
set_option maxRecDepth 20000 in
theorem tw_92 : (.fieldLink RX3 33 "LowEnergy$Device" "mail" "LLowEnergy$Mail;" : Cond) ∈ lw_tbl := t3_in (List.mem_of_getElem? (i := 29) rfl)
set_option maxRecDepth 20000 in
theorem tw_93 : (.classLink RX3 37 RX10 : Cond) ∈ lw_tbl := t2_in (List.mem_of_getElem? (i := 36) rfl)
set_option maxRecDepth 20000 in
theorem tw_94 : (.instantiable RX10 10 : Cond) ∈ lw_tbl := t2_in (List.mem_of_getElem? (i := 37) rfl)
set_option maxRecDepth 20000 in
theorem tw_95 : (.initialized RX10 : Cond) ∈ lw_tbl := t1_in (List.mem_of_getElem? (i := 9) rfl)
set_option maxRecDepth 20000 in
theorem tw_96 : (.methodLink RX3 39 yX10_init : Cond) ∈ lw_tbl := t2_in (List.mem_of_getElem? (i := 38) rfl)
set_option maxRecDepth 20000 in
theorem tw_97 : (.instanceMethod yX10_init : Cond) ∈ lw_tbl := t2_in (List.mem_of_getElem? (i := 39) rfl)
set_option maxRecDepth 20000 in
theorem tw_98 : (.code yX10_init cX10_init 2 none : Cond) ∈ lw_tbl := t2_in (List.mem_of_getElem? (i := 40) rfl)
set_option maxRecDepth 20000 in
theorem tw_99 : (.methodLink RX10 3 objectInit : Cond) ∈ lw_tbl := t2_in (List.mem_of_getElem? (i := 41) rfl)
set_option maxRecDepth 20000 in
theorem tw_100 : (.fieldLink RX10 11 "LowEnergy$Server" "types" "[I" : Cond) ∈ lw_tbl := t2_in (List.mem_of_getElem? (i := 44) rfl)
set_option maxRecDepth 20000 in
theorem tw_101 : (.fieldLink RX10 15 "LowEnergy$Server" "rights" "[I" : Cond) ∈ lw_tbl := t2_in (List.mem_of_getElem? (i := 45) rfl)
set_option maxRecDepth 20000 in
theorem tw_102 : (.classLink RX10 18 RX9 : Cond) ∈ lw_tbl := t2_in (List.mem_of_getElem? (i := 42) rfl)
set_option maxRecDepth 20000 in
theorem tw_103 : (.fieldLink RX10 20 "LowEnergy$Server" "values" "[LLowEnergy$Row;" : Cond) ∈ lw_tbl := t2_in (List.mem_of_getElem? (i := 46) rfl)
set_option maxRecDepth 20000 in
theorem tw_104 : (.fieldLink RX10 24 "LowEnergy$Server" "ownMtu" "I" : Cond) ∈ lw_tbl := t2_in (List.mem_of_getElem? (i := 49) rfl)
set_option maxRecDepth 20000 in
theorem tw_105 : (.fieldLink RX10 28 "LowEnergy$Server" "linkMtu" "I" : Cond) ∈ lw_tbl := t2_in (List.mem_of_getElem? (i := 52) rfl)
set_option maxRecDepth 20000 in
theorem tw_106 : (.fieldLink RX10 31 "LowEnergy$Server" "parts" "[LLowEnergy$Row;" : Cond) ∈ lw_tbl := t2_in (List.mem_of_getElem? (i := 55) rfl)
set_option maxRecDepth 20000 in
theorem tw_107 : (.fieldLink RX10 34 "LowEnergy$Server" "sizes" "[I" : Cond) ∈ lw_tbl := t2_in (List.mem_of_getElem? (i := 60) rfl)
set_option maxRecDepth 20000 in
theorem tw_108 : (.methodLink RX10 37 yX9_init : Cond) ∈ lw_tbl := t2_in (List.mem_of_getElem? (i := 43) rfl)
set_option maxRecDepth 20000 in
theorem tw_109 : (.fieldLink RX3 40 "LowEnergy$Device" "server" "LLowEnergy$Server;" : Cond) ∈ lw_tbl := t3_in (List.mem_of_getElem? (i := 36) rfl)
set_option maxRecDepth 20000 in
theorem tw_110 : (.classLink RX3 44 RX2 : Cond) ∈ lw_tbl := t2_in (List.mem_of_getElem? (i := 82) rfl)
set_option maxRecDepth 20000 in
theorem tw_111 : (.instantiable RX2 6 : Cond) ∈ lw_tbl := t2_in (List.mem_of_getElem? (i := 83) rfl)
set_option maxRecDepth 20000 in
theorem tw_112 : (.initialized RX2 : Cond) ∈ lw_tbl := t1_in (List.mem_of_getElem? (i := 10) rfl)
set_option maxRecDepth 20000 in
theorem tw_113 : (.instanceMethod yX2_init : Cond) ∈ lw_tbl := t2_in (List.mem_of_getElem? (i := 85) rfl)
set_option maxRecDepth 20000 in
theorem tw_114 : (.code yX2_init cX2_init 1 none : Cond) ∈ lw_tbl := t2_in (List.mem_of_getElem? (i := 86) rfl)
set_option maxRecDepth 20000 in
theorem tw_115 : (.methodLink RX2 3 objectInit : Cond) ∈ lw_tbl := t2_in (List.mem_of_getElem? (i := 87) rfl)
set_option maxRecDepth 20000 in
theorem tw_116 : (.fieldLink RX2 9 "LowEnergy$Client" "kind" "I" : Cond) ∈ lw_tbl := t2_in (List.mem_of_getElem? (i := 90) rfl)
set_option maxRecDepth 20000 in
theorem tw_117 : (.classLink RX2 15 RX9 : Cond) ∈ lw_tbl := t2_in (List.mem_of_getElem? (i := 88) rfl)
set_option maxRecDepth 20000 in
theorem tw_118 : (.methodLink RX2 17 yX9_init : Cond) ∈ lw_tbl := t2_in (List.mem_of_getElem? (i := 89) rfl)
set_option maxRecDepth 20000 in
theorem tw_119 : (.fieldLink RX2 20 "LowEnergy$Client" "bytes" "LLowEnergy$Row;" : Cond) ∈ lw_tbl := t2_in (List.mem_of_getElem? (i := 97) rfl)
set_option maxRecDepth 20000 in
theorem tw_120 : (.fieldLink RX3 47 "LowEnergy$Device" "client" "LLowEnergy$Client;" : Cond) ∈ lw_tbl := t3_in (List.mem_of_getElem? (i := 38) rfl)
set_option maxRecDepth 20000 in
theorem tw_121 : (.classLink RX3 51 RX4 : Cond) ∈ lw_tbl := t2_in (List.mem_of_getElem? (i := 112) rfl)
set_option maxRecDepth 20000 in
theorem tw_122 : (.instantiable RX4 6 : Cond) ∈ lw_tbl := t2_in (List.mem_of_getElem? (i := 113) rfl)
set_option maxRecDepth 20000 in
theorem tw_123 : (.initialized RX4 : Cond) ∈ lw_tbl := t1_in (List.mem_of_getElem? (i := 11) rfl)
set_option maxRecDepth 20000 in
theorem tw_124 : (.methodLink RX3 53 yX4_init : Cond) ∈ lw_tbl := t2_in (List.mem_of_getElem? (i := 114) rfl)
set_option maxRecDepth 20000 in
theorem tw_125 : (.instanceMethod yX4_init : Cond) ∈ lw_tbl := t2_in (List.mem_of_getElem? (i := 115) rfl)
set_option maxRecDepth 20000 in
theorem tw_126 : (.code yX4_init cX4_init 2 none : Cond) ∈ lw_tbl := t2_in (List.mem_of_getElem? (i := 116) rfl)
set_option maxRecDepth 20000 in
theorem tw_127 : (.methodLink RX4 3 objectInit : Cond) ∈ lw_tbl := t2_in (List.mem_of_getElem? (i := 117) rfl)
set_option maxRecDepth 20000 in
theorem tw_128 : (.fieldLink RX4 11 "LowEnergy$Diary" "kinds" "[I" : Cond) ∈ lw_tbl := t2_in (List.mem_of_getElem? (i := 121) rfl)
set_option maxRecDepth 20000 in
theorem tw_129 : (.classLink RX4 15 "[[I" : Cond) ∈ lw_tbl := t2_in (List.mem_of_getElem? (i := 118) rfl)
set_option maxRecDepth 20000 in
theorem tw_130 : (.fieldLink RX4 17 "LowEnergy$Diary" "numbers" "[[I" : Cond) ∈ lw_tbl := t2_in (List.mem_of_getElem? (i := 122) rfl)
set_option maxRecDepth 20000 in
theorem tw_131 : (.classLink RX4 20 RX9 : Cond) ∈ lw_tbl := t2_in (List.mem_of_getElem? (i := 119) rfl)
set_option maxRecDepth 20000 in
theorem tw_132 : (.fieldLink RX4 22 "LowEnergy$Diary" "rows" "[LLowEnergy$Row;" : Cond) ∈ lw_tbl := t2_in (List.mem_of_getElem? (i := 123) rfl)
set_option maxRecDepth 20000 in
theorem tw_133 : (.methodLink RX4 26 yX9_init : Cond) ∈ lw_tbl := t2_in (List.mem_of_getElem? (i := 120) rfl)
set_option maxRecDepth 20000 in
theorem tw_134 : (.fieldLink RX3 54 "LowEnergy$Device" "diary" "LLowEnergy$Diary;" : Cond) ∈ lw_tbl := t3_in (List.mem_of_getElem? (i := 40) rfl)
set_option maxRecDepth 20000 in
theorem tw_135 : (.fieldLink RX3 58 "LowEnergy$Device" "draft" "LLowEnergy$Row;" : Cond) ∈ lw_tbl := t3_in (List.mem_of_getElem? (i := 43) rfl)
set_option maxRecDepth 20000 in
theorem tw_136 : (.fieldLink RX3 61 "LowEnergy$Device" "index" "I" : Cond) ∈ lw_tbl := t3_in (List.mem_of_getElem? (i := 5) rfl)
set_option maxRecDepth 20000 in
theorem tw_137 : (.fieldLink RX3 65 "LowEnergy$Device" "address" "J" : Cond) ∈ lw_tbl := t3_in (List.mem_of_getElem? (i := 7) rfl)
set_option maxRecDepth 20000 in
theorem tw_138 : (.fieldLink RX3 69 "LowEnergy$Device" "x" "I" : Cond) ∈ lw_tbl := t3_in (List.mem_of_getElem? (i := 13) rfl)
set_option maxRecDepth 20000 in
theorem tw_139 : (.classLink RX3 72 RX5 : Cond) ∈ lw_tbl := t2_in (List.mem_of_getElem? (i := 142) rfl)
set_option maxRecDepth 20000 in
theorem tw_140 : (.instantiable RX5 16 : Cond) ∈ lw_tbl := t2_in (List.mem_of_getElem? (i := 143) rfl)
set_option maxRecDepth 20000 in
theorem tw_141 : (.initialized RX5 : Cond) ∈ lw_tbl := t1_in (List.mem_of_getElem? (i := 12) rfl)
set_option maxRecDepth 20000 in
theorem tw_142 : (.methodLink RX3 74 yX5_init : Cond) ∈ lw_tbl := t2_in (List.mem_of_getElem? (i := 144) rfl)
set_option maxRecDepth 20000 in
theorem tw_143 : (.instanceMethod yX5_init : Cond) ∈ lw_tbl := t2_in (List.mem_of_getElem? (i := 145) rfl)
set_option maxRecDepth 20000 in
theorem tw_144 : (.code yX5_init cX5_init 2 none : Cond) ∈ lw_tbl := t2_in (List.mem_of_getElem? (i := 146) rfl)
set_option maxRecDepth 20000 in
theorem tw_145 : (.methodLink RX5 1 objectInit : Cond) ∈ lw_tbl := t2_in (List.mem_of_getElem? (i := 147) rfl)
set_option maxRecDepth 20000 in
theorem tw_146 : (.fieldLink RX5 7 "LowEnergy$Guard" "key" "[I" : Cond) ∈ lw_tbl := t2_in (List.mem_of_getElem? (i := 149) rfl)
set_option maxRecDepth 20000 in
theorem tw_147 : (.fieldLink RX5 13 "LowEnergy$Guard" "diversifier" "[I" : Cond) ∈ lw_tbl := t2_in (List.mem_of_getElem? (i := 153) rfl)
set_option maxRecDepth 20000 in
theorem tw_148 : (.fieldLink RX5 16 "LowEnergy$Guard" "session" "[I" : Cond) ∈ lw_tbl := t2_in (List.mem_of_getElem? (i := 155) rfl)
set_option maxRecDepth 20000 in
theorem tw_149 : (.fieldLink RX5 19 "LowEnergy$Guard" "iv" "[I" : Cond) ∈ lw_tbl := t2_in (List.mem_of_getElem? (i := 157) rfl)
set_option maxRecDepth 20000 in
theorem tw_150 : (.fieldLink RX5 22 "LowEnergy$Guard" "mac" "[I" : Cond) ∈ lw_tbl := t2_in (List.mem_of_getElem? (i := 176) rfl)
set_option maxRecDepth 20000 in
theorem tw_151 : (.fieldLink RX5 25 "LowEnergy$Guard" "pad" "[I" : Cond) ∈ lw_tbl := t2_in (List.mem_of_getElem? (i := 177) rfl)
set_option maxRecDepth 20000 in
theorem tw_152 : (.fieldLink RX5 28 "LowEnergy$Guard" "cipher" "LLowEnergy$Cipher;" : Cond) ∈ lw_tbl := t2_in (List.mem_of_getElem? (i := 148) rfl)
set_option maxRecDepth 20000 in
theorem tw_153 : (.fieldLink RX3 77 "LowEnergy$Device" "guard" "LLowEnergy$Guard;" : Cond) ∈ lw_tbl := t3_in (List.mem_of_getElem? (i := 31) rfl)
set_option maxRecDepth 20000 in
theorem tw_154 : (.classLink RX3 81 RX8 : Cond) ∈ lw_tbl := t2_in (List.mem_of_getElem? (i := 211) rfl)
set_option maxRecDepth 20000 in
theorem tw_155 : (.instantiable RX8 8 : Cond) ∈ lw_tbl := t2_in (List.mem_of_getElem? (i := 212) rfl)
set_option maxRecDepth 20000 in
theorem tw_156 : (.initialized RX8 : Cond) ∈ lw_tbl := t1_in (List.mem_of_getElem? (i := 13) rfl)
set_option maxRecDepth 20000 in
theorem tw_157 : (.methodLink RX3 83 yX8_init : Cond) ∈ lw_tbl := t2_in (List.mem_of_getElem? (i := 213) rfl)
set_option maxRecDepth 20000 in
theorem tw_158 : (.instanceMethod yX8_init : Cond) ∈ lw_tbl := t2_in (List.mem_of_getElem? (i := 214) rfl)
set_option maxRecDepth 20000 in
theorem tw_159 : (.code yX8_init cX8_init 2 none : Cond) ∈ lw_tbl := t2_in (List.mem_of_getElem? (i := 215) rfl)
set_option maxRecDepth 20000 in
theorem tw_160 : (.methodLink RX8 3 objectInit : Cond) ∈ lw_tbl := t2_in (List.mem_of_getElem? (i := 216) rfl)
set_option maxRecDepth 20000 in
theorem tw_161 : (.fieldLink RX8 9 "LowEnergy$Pairing" "passkey" "I" : Cond) ∈ lw_tbl := t2_in (List.mem_of_getElem? (i := 218) rfl)
set_option maxRecDepth 20000 in
theorem tw_162 : (.fieldLink RX8 15 "LowEnergy$Pairing" "temporaryKey" "[I" : Cond) ∈ lw_tbl := t2_in (List.mem_of_getElem? (i := 223) rfl)
set_option maxRecDepth 20000 in
theorem tw_163 : (.fieldLink RX8 19 "LowEnergy$Pairing" "bothMessages" "[I" : Cond) ∈ lw_tbl := t2_in (List.mem_of_getElem? (i := 224) rfl)
set_option maxRecDepth 20000 in
theorem tw_164 : (.fieldLink RX8 22 "LowEnergy$Pairing" "random" "[I" : Cond) ∈ lw_tbl := t2_in (List.mem_of_getElem? (i := 225) rfl)
set_option maxRecDepth 20000 in
theorem tw_165 : (.fieldLink RX8 25 "LowEnergy$Pairing" "kept" "[I" : Cond) ∈ lw_tbl := t2_in (List.mem_of_getElem? (i := 226) rfl)
set_option maxRecDepth 20000 in
theorem tw_166 : (.fieldLink RX8 28 "LowEnergy$Pairing" "made" "[I" : Cond) ∈ lw_tbl := t2_in (List.mem_of_getElem? (i := 227) rfl)
set_option maxRecDepth 20000 in
theorem tw_167 : (.fieldLink RX8 31 "LowEnergy$Pairing" "cipher" "LLowEnergy$Cipher;" : Cond) ∈ lw_tbl := t2_in (List.mem_of_getElem? (i := 217) rfl)
set_option maxRecDepth 20000 in
theorem tw_168 : (.fieldLink RX3 84 "LowEnergy$Device" "pairing" "LLowEnergy$Pairing;" : Cond) ∈ lw_tbl := t3_in (List.mem_of_getElem? (i := 34) rfl)
set_option maxRecDepth 20000 in
theorem tw_169 : (.classLink RL 34 RX12 : Cond) ∈ lw_tbl := t7_in (List.mem_of_getElem? (i := 21) rfl)
set_option maxRecDepth 20000 in
theorem tw_170 : (.instantiable RX12 123 : Cond) ∈ lw_tbl := t7_in (List.mem_of_getElem? (i := 22) rfl)
set_option maxRecDepth 20000 in
theorem tw_171 : (.initialized RX12 : Cond) ∈ lw_tbl := t1_in (List.mem_of_getElem? (i := 14) rfl)
set_option maxRecDepth 20000 in
theorem tw_172 : (.methodLink RL 36 yX12_init : Cond) ∈ lw_tbl := t7_in (List.mem_of_getElem? (i := 23) rfl)
set_option maxRecDepth 20000 in
theorem tw_173 : (.instanceMethod yX12_init : Cond) ∈ lw_tbl := t7_in (List.mem_of_getElem? (i := 24) rfl)
set_option maxRecDepth 20000 in
theorem tw_174 : (.code yX12_init cX12_init 6 none : Cond) ∈ lw_tbl := t7_in (List.mem_of_getElem? (i := 25) rfl)
set_option maxRecDepth 20000 in
theorem tw_175 : (.methodLink RX12 39 objectInit : Cond) ∈ lw_tbl := t7_in (List.mem_of_getElem? (i := 26) rfl)
set_option maxRecDepth 20000 in
theorem tw_176 : (.arrayClass .byte : Cond) ∈ lw_tbl := t5_in (List.mem_of_getElem? (i := 5) rfl)
set_option maxRecDepth 20000 in
theorem tw_177 : (.fieldLink RX12 10 "LowEnergyModel" "tape" "[B" : Cond) ∈ lw_tbl := t7_in (List.mem_of_getElem? (i := 43) rfl)
set_option maxRecDepth 20000 in
theorem tw_178 : (.fieldLink RX12 22 "LowEnergyModel" "box" "[I" : Cond) ∈ lw_tbl := t7_in (List.mem_of_getElem? (i := 45) rfl)
set_option maxRecDepth 20000 in
theorem tw_179 : (.fieldLink RX12 26 "LowEnergyModel" "round" "[B" : Cond) ∈ lw_tbl := t7_in (List.mem_of_getElem? (i := 46) rfl)
set_option maxRecDepth 20000 in
theorem tw_180 : (.fieldLink RX12 33 "LowEnergyModel" "cells" "[B" : Cond) ∈ lw_tbl := t7_in (List.mem_of_getElem? (i := 47) rfl)
set_option maxRecDepth 20000 in
theorem tw_181 : (.fieldLink RX12 36 "LowEnergyModel" "moved" "[B" : Cond) ∈ lw_tbl := t7_in (List.mem_of_getElem? (i := 48) rfl)
set_option maxRecDepth 20000 in
theorem tw_182 : (.fieldLink RX12 45 "LowEnergyModel" "state" "[I" : Cond) ∈ lw_tbl := t7_in (List.mem_of_getElem? (i := 49) rfl)
set_option maxRecDepth 20000 in
theorem tw_183 : (.fieldLink RX12 48 "LowEnergyModel" "x" "[I" : Cond) ∈ lw_tbl := t7_in (List.mem_of_getElem? (i := 50) rfl)
set_option maxRecDepth 20000 in
theorem tw_184 : (.fieldLink RX12 51 "LowEnergyModel" "interval" "[I" : Cond) ∈ lw_tbl := t7_in (List.mem_of_getElem? (i := 51) rfl)
set_option maxRecDepth 20000 in
theorem tw_185 : (.fieldLink RX12 54 "LowEnergyModel" "next" "[I" : Cond) ∈ lw_tbl := t7_in (List.mem_of_getElem? (i := 52) rfl)
set_option maxRecDepth 20000 in
theorem tw_186 : (.fieldLink RX12 57 "LowEnergyModel" "advertised" "[I" : Cond) ∈ lw_tbl := t7_in (List.mem_of_getElem? (i := 53) rfl)
set_option maxRecDepth 20000 in
theorem tw_187 : (.arrayClass .long : Cond) ∈ lw_tbl := t8_in (List.mem_of_getElem? (i := 171) rfl)
set_option maxRecDepth 20000 in
theorem tw_188 : (.fieldLink RX12 60 "LowEnergyModel" "address" "[J" : Cond) ∈ lw_tbl := t7_in (List.mem_of_getElem? (i := 54) rfl)
set_option maxRecDepth 20000 in
theorem tw_189 : (.fieldLink RX12 64 "LowEnergyModel" "peer" "[J" : Cond) ∈ lw_tbl := t7_in (List.mem_of_getElem? (i := 55) rfl)
set_option maxRecDepth 20000 in
theorem tw_190 : (.fieldLink RX12 67 "LowEnergyModel" "wanted" "[J" : Cond) ∈ lw_tbl := t7_in (List.mem_of_getElem? (i := 56) rfl)
set_option maxRecDepth 20000 in
theorem tw_191 : (.fieldLink RX12 70 "LowEnergyModel" "map" "[J" : Cond) ∈ lw_tbl := t7_in (List.mem_of_getElem? (i := 57) rfl)
set_option maxRecDepth 20000 in
theorem tw_192 : (.fieldLink RX12 73 "LowEnergyModel" "newMap" "[J" : Cond) ∈ lw_tbl := t7_in (List.mem_of_getElem? (i := 58) rfl)
set_option maxRecDepth 20000 in
theorem tw_193 : (.fieldLink RX12 76 "LowEnergyModel" "features" "[J" : Cond) ∈ lw_tbl := t7_in (List.mem_of_getElem? (i := 59) rfl)
set_option maxRecDepth 20000 in
theorem tw_194 : (.fieldLink RX12 79 "LowEnergyModel" "reported" "[J" : Cond) ∈ lw_tbl := t7_in (List.mem_of_getElem? (i := 60) rfl)
set_option maxRecDepth 20000 in
theorem tw_195 : (.fieldLink RX12 82 "LowEnergyModel" "data" "[B" : Cond) ∈ lw_tbl := t7_in (List.mem_of_getElem? (i := 61) rfl)
set_option maxRecDepth 20000 in
theorem tw_196 : (.fieldLink RX12 85 "LowEnergyModel" "reportData" "[B" : Cond) ∈ lw_tbl := t7_in (List.mem_of_getElem? (i := 62) rfl)
set_option maxRecDepth 20000 in
theorem tw_197 : (.fieldLink RX12 88 "LowEnergyModel" "reports" "[I" : Cond) ∈ lw_tbl := t7_in (List.mem_of_getElem? (i := 63) rfl)
set_option maxRecDepth 20000 in
theorem tw_198 : (.fieldLink RX12 91 "LowEnergyModel" "reportMany" "[I" : Cond) ∈ lw_tbl := t7_in (List.mem_of_getElem? (i := 64) rfl)
set_option maxRecDepth 20000 in
theorem tw_199 : (.fieldLink RX12 94 "LowEnergyModel" "lost" "[I" : Cond) ∈ lw_tbl := t7_in (List.mem_of_getElem? (i := 65) rfl)
set_option maxRecDepth 20000 in
theorem tw_200 : (.fieldLink RX12 97 "LowEnergyModel" "noises" "[I" : Cond) ∈ lw_tbl := t7_in (List.mem_of_getElem? (i := 66) rfl)
set_option maxRecDepth 20000 in
theorem tw_201 : (.fieldLink RX12 100 "LowEnergyModel" "noise" "[I" : Cond) ∈ lw_tbl := t7_in (List.mem_of_getElem? (i := 67) rfl)
set_option maxRecDepth 20000 in
theorem tw_202 : (.fieldLink RX12 103 "LowEnergyModel" "timeout" "[I" : Cond) ∈ lw_tbl := t7_in (List.mem_of_getElem? (i := 68) rfl)
set_option maxRecDepth 20000 in
theorem tw_203 : (.fieldLink RX12 106 "LowEnergyModel" "hop" "[I" : Cond) ∈ lw_tbl := t7_in (List.mem_of_getElem? (i := 69) rfl)
set_option maxRecDepth 20000 in
theorem tw_204 : (.fieldLink RX12 109 "LowEnergyModel" "init" "[I" : Cond) ∈ lw_tbl := t7_in (List.mem_of_getElem? (i := 70) rfl)
set_option maxRecDepth 20000 in
theorem tw_205 : (.fieldLink RX12 112 "LowEnergyModel" "event" "[I" : Cond) ∈ lw_tbl := t7_in (List.mem_of_getElem? (i := 71) rfl)
set_option maxRecDepth 20000 in
theorem tw_206 : (.fieldLink RX12 115 "LowEnergyModel" "u" "[I" : Cond) ∈ lw_tbl := t7_in (List.mem_of_getElem? (i := 72) rfl)
set_option maxRecDepth 20000 in
theorem tw_207 : (.fieldLink RX12 118 "LowEnergyModel" "channel" "[I" : Cond) ∈ lw_tbl := t7_in (List.mem_of_getElem? (i := 73) rfl)
set_option maxRecDepth 20000 in
theorem tw_208 : (.fieldLink RX12 121 "LowEnergyModel" "anchor" "[I" : Cond) ∈ lw_tbl := t7_in (List.mem_of_getElem? (i := 74) rfl)
set_option maxRecDepth 20000 in
theorem tw_209 : (.fieldLink RX12 124 "LowEnergyModel" "sn" "[I" : Cond) ∈ lw_tbl := t7_in (List.mem_of_getElem? (i := 75) rfl)
set_option maxRecDepth 20000 in
theorem tw_210 : (.fieldLink RX12 127 "LowEnergyModel" "nesn" "[I" : Cond) ∈ lw_tbl := t7_in (List.mem_of_getElem? (i := 76) rfl)
set_option maxRecDepth 20000 in
theorem tw_211 : (.fieldLink RX12 130 "LowEnergyModel" "heardAt" "[I" : Cond) ∈ lw_tbl := t7_in (List.mem_of_getElem? (i := 77) rfl)
set_option maxRecDepth 20000 in
theorem tw_212 : (.fieldLink RX12 133 "LowEnergyModel" "reason" "[I" : Cond) ∈ lw_tbl := t7_in (List.mem_of_getElem? (i := 78) rfl)
set_option maxRecDepth 20000 in
theorem tw_213 : (.fieldLink RX12 136 "LowEnergyModel" "ending" "[I" : Cond) ∈ lw_tbl := t7_in (List.mem_of_getElem? (i := 79) rfl)
set_option maxRecDepth 20000 in
theorem tw_214 : (.fieldLink RX12 139 "LowEnergyModel" "instant" "[I" : Cond) ∈ lw_tbl := t7_in (List.mem_of_getElem? (i := 80) rfl)
set_option maxRecDepth 20000 in
theorem tw_215 : (.fieldLink RX12 142 "LowEnergyModel" "access" "[B" : Cond) ∈ lw_tbl := t7_in (List.mem_of_getElem? (i := 81) rfl)
set_option maxRecDepth 20000 in
theorem tw_216 : (.arrayClass .boolean : Cond) ∈ lw_tbl := t8_in (List.mem_of_getElem? (i := 172) rfl)
set_option maxRecDepth 20000 in
theorem tw_217 : (.fieldLink RX12 145 "LowEnergyModel" "hasGood" "[Z" : Cond) ∈ lw_tbl := t7_in (List.mem_of_getElem? (i := 82) rfl)
set_option maxRecDepth 20000 in
theorem tw_218 : (.fieldLink RX12 149 "LowEnergyModel" "mapWaits" "[Z" : Cond) ∈ lw_tbl := t7_in (List.mem_of_getElem? (i := 83) rfl)
set_option maxRecDepth 20000 in
theorem tw_219 : (.fieldLink RX12 152 "LowEnergyModel" "mine" "[Z" : Cond) ∈ lw_tbl := t7_in (List.mem_of_getElem? (i := 84) rfl)
set_option maxRecDepth 20000 in
theorem tw_220 : (.fieldLink RX12 155 "LowEnergyModel" "kept" "[I" : Cond) ∈ lw_tbl := t7_in (List.mem_of_getElem? (i := 86) rfl)
set_option maxRecDepth 20000 in
theorem tw_221 : (.fieldLink RX12 158 "LowEnergyModel" "keptMany" "[I" : Cond) ∈ lw_tbl := t7_in (List.mem_of_getElem? (i := 87) rfl)
set_option maxRecDepth 20000 in
theorem tw_222 : (.fieldLink RX12 161 "LowEnergyModel" "notKept" "[I" : Cond) ∈ lw_tbl := t7_in (List.mem_of_getElem? (i := 88) rfl)
set_option maxRecDepth 20000 in
theorem tw_223 : (.fieldLink RX12 164 "LowEnergyModel" "air" "[B" : Cond) ∈ lw_tbl := t7_in (List.mem_of_getElem? (i := 89) rfl)
set_option maxRecDepth 20000 in
theorem tw_224 : (.fieldLink RX12 167 "LowEnergyModel" "airMany" "[I" : Cond) ∈ lw_tbl := t7_in (List.mem_of_getElem? (i := 90) rfl)
set_option maxRecDepth 20000 in
theorem tw_225 : (.fieldLink RX12 170 "LowEnergyModel" "airChannel" "[I" : Cond) ∈ lw_tbl := t7_in (List.mem_of_getElem? (i := 91) rfl)
set_option maxRecDepth 20000 in
theorem tw_226 : (.fieldLink RX12 173 "LowEnergyModel" "airLost" "[Z" : Cond) ∈ lw_tbl := t7_in (List.mem_of_getElem? (i := 92) rfl)
set_option maxRecDepth 20000 in
theorem tw_227 : (.fieldLink RX12 176 "LowEnergyModel" "sending" "[B" : Cond) ∈ lw_tbl := t7_in (List.mem_of_getElem? (i := 94) rfl)
set_option maxRecDepth 20000 in
theorem tw_228 : (.fieldLink RX12 179 "LowEnergyModel" "got" "[B" : Cond) ∈ lw_tbl := t7_in (List.mem_of_getElem? (i := 95) rfl)
set_option maxRecDepth 20000 in
theorem tw_229 : (.fieldLink RX12 182 "LowEnergyModel" "currentSort" "[I" : Cond) ∈ lw_tbl := t7_in (List.mem_of_getElem? (i := 96) rfl)
set_option maxRecDepth 20000 in
theorem tw_230 : (.fieldLink RX12 185 "LowEnergyModel" "currentMany" "[I" : Cond) ∈ lw_tbl := t7_in (List.mem_of_getElem? (i := 97) rfl)
set_option maxRecDepth 20000 in
theorem tw_231 : (.fieldLink RX12 188 "LowEnergyModel" "currentOp" "[I" : Cond) ∈ lw_tbl := t7_in (List.mem_of_getElem? (i := 98) rfl)
set_option maxRecDepth 20000 in
theorem tw_232 : (.fieldLink RX12 191 "LowEnergyModel" "controls" "[I" : Cond) ∈ lw_tbl := t7_in (List.mem_of_getElem? (i := 99) rfl)
set_option maxRecDepth 20000 in
theorem tw_233 : (.fieldLink RX12 194 "LowEnergyModel" "out" "[I" : Cond) ∈ lw_tbl := t7_in (List.mem_of_getElem? (i := 100) rfl)
set_option maxRecDepth 20000 in
theorem tw_234 : (.fieldLink RX12 197 "LowEnergyModel" "opened" "[I" : Cond) ∈ lw_tbl := t7_in (List.mem_of_getElem? (i := 101) rfl)
set_option maxRecDepth 20000 in
theorem tw_235 : (.fieldLink RX12 200 "LowEnergyModel" "current" "[B" : Cond) ∈ lw_tbl := t7_in (List.mem_of_getElem? (i := 102) rfl)
set_option maxRecDepth 20000 in
theorem tw_236 : (.fieldLink RX12 203 "LowEnergyModel" "control" "[B" : Cond) ∈ lw_tbl := t7_in (List.mem_of_getElem? (i := 103) rfl)
set_option maxRecDepth 20000 in
theorem tw_237 : (.fieldLink RX12 206 "LowEnergyModel" "key" "[B" : Cond) ∈ lw_tbl := t7_in (List.mem_of_getElem? (i := 104) rfl)
set_option maxRecDepth 20000 in
theorem tw_238 : (.fieldLink RX12 209 "LowEnergyModel" "session" "[B" : Cond) ∈ lw_tbl := t7_in (List.mem_of_getElem? (i := 105) rfl)
set_option maxRecDepth 20000 in
theorem tw_239 : (.fieldLink RX12 212 "LowEnergyModel" "iv" "[B" : Cond) ∈ lw_tbl := t7_in (List.mem_of_getElem? (i := 106) rfl)
set_option maxRecDepth 20000 in
theorem tw_240 : (.fieldLink RX12 215 "LowEnergyModel" "ownSkd" "[B" : Cond) ∈ lw_tbl := t7_in (List.mem_of_getElem? (i := 107) rfl)
set_option maxRecDepth 20000 in
theorem tw_241 : (.fieldLink RX12 218 "LowEnergyModel" "ownIv" "[B" : Cond) ∈ lw_tbl := t7_in (List.mem_of_getElem? (i := 108) rfl)
set_option maxRecDepth 20000 in
theorem tw_242 : (.fieldLink RX12 221 "LowEnergyModel" "controlMany" "[I" : Cond) ∈ lw_tbl := t7_in (List.mem_of_getElem? (i := 109) rfl)
set_option maxRecDepth 20000 in
theorem tw_243 : (.fieldLink RX12 224 "LowEnergyModel" "held" "[Z" : Cond) ∈ lw_tbl := t7_in (List.mem_of_getElem? (i := 110) rfl)
set_option maxRecDepth 20000 in
theorem tw_244 : (.fieldLink RX12 227 "LowEnergyModel" "asked" "[Z" : Cond) ∈ lw_tbl := t7_in (List.mem_of_getElem? (i := 111) rfl)
set_option maxRecDepth 20000 in
theorem tw_245 : (.fieldLink RX12 230 "LowEnergyModel" "hasFour" "[Z" : Cond) ∈ lw_tbl := t7_in (List.mem_of_getElem? (i := 112) rfl)
set_option maxRecDepth 20000 in
theorem tw_246 : (.fieldLink RX12 233 "LowEnergyModel" "sealsOut" "[Z" : Cond) ∈ lw_tbl := t7_in (List.mem_of_getElem? (i := 113) rfl)
set_option maxRecDepth 20000 in
theorem tw_247 : (.fieldLink RX12 236 "LowEnergyModel" "sealsIn" "[Z" : Cond) ∈ lw_tbl := t7_in (List.mem_of_getElem? (i := 114) rfl)
set_option maxRecDepth 20000 in
theorem tw_248 : (.fieldLink RX12 239 "LowEnergyModel" "isSecure" "[Z" : Cond) ∈ lw_tbl := t7_in (List.mem_of_getElem? (i := 115) rfl)
set_option maxRecDepth 20000 in
theorem tw_249 : (.fieldLink RX12 242 "LowEnergyModel" "hasSession" "[Z" : Cond) ∈ lw_tbl := t7_in (List.mem_of_getElem? (i := 116) rfl)
set_option maxRecDepth 20000 in
theorem tw_250 : (.fieldLink RX12 245 "LowEnergyModel" "hasKey" "[Z" : Cond) ∈ lw_tbl := t7_in (List.mem_of_getElem? (i := 117) rfl)
set_option maxRecDepth 20000 in
theorem tw_251 : (.fieldLink RX12 248 "LowEnergyModel" "toldVersion" "[Z" : Cond) ∈ lw_tbl := t7_in (List.mem_of_getElem? (i := 118) rfl)
set_option maxRecDepth 20000 in
theorem tw_252 : (.fieldLink RX12 251 "LowEnergyModel" "block" "[B" : Cond) ∈ lw_tbl := t7_in (List.mem_of_getElem? (i := 119) rfl)
set_option maxRecDepth 20000 in
theorem tw_253 : (.fieldLink RX12 254 "LowEnergyModel" "mac" "[B" : Cond) ∈ lw_tbl := t7_in (List.mem_of_getElem? (i := 120) rfl)
set_option maxRecDepth 20000 in
theorem tw_254 : (.fieldLink RX12 257 "LowEnergyModel" "stream" "[B" : Cond) ∈ lw_tbl := t7_in (List.mem_of_getElem? (i := 121) rfl)
set_option maxRecDepth 20000 in
theorem tw_255 : (.fieldLink RX12 260 "LowEnergyModel" "pdu" "[B" : Cond) ∈ lw_tbl := t7_in (List.mem_of_getElem? (i := 122) rfl)
set_option maxRecDepth 20000 in
theorem tw_256 : (.fieldLink RX12 263 "LowEnergyModel" "came" "[B" : Cond) ∈ lw_tbl := t7_in (List.mem_of_getElem? (i := 123) rfl)
set_option maxRecDepth 20000 in
theorem tw_257 : (.fieldLink RX12 266 "LowEnergyModel" "message" "[B" : Cond) ∈ lw_tbl := t7_in (List.mem_of_getElem? (i := 124) rfl)
set_option maxRecDepth 20000 in
theorem tw_258 : (.fieldLink RX12 269 "LowEnergyModel" "whole" "[B" : Cond) ∈ lw_tbl := t7_in (List.mem_of_getElem? (i := 125) rfl)
set_option maxRecDepth 20000 in
theorem tw_259 : (.fieldLink RX12 272 "LowEnergyModel" "messageMany" "[I" : Cond) ∈ lw_tbl := t7_in (List.mem_of_getElem? (i := 126) rfl)
set_option maxRecDepth 20000 in
theorem tw_260 : (.fieldLink RX12 275 "LowEnergyModel" "messages" "[I" : Cond) ∈ lw_tbl := t7_in (List.mem_of_getElem? (i := 127) rfl)
set_option maxRecDepth 20000 in
theorem tw_261 : (.fieldLink RX12 278 "LowEnergyModel" "taken" "[I" : Cond) ∈ lw_tbl := t7_in (List.mem_of_getElem? (i := 128) rfl)
set_option maxRecDepth 20000 in
theorem tw_262 : (.fieldLink RX12 281 "LowEnergyModel" "wholeMany" "[I" : Cond) ∈ lw_tbl := t7_in (List.mem_of_getElem? (i := 129) rfl)
set_option maxRecDepth 20000 in
theorem tw_263 : (.fieldLink RX12 284 "LowEnergyModel" "wholeAll" "[I" : Cond) ∈ lw_tbl := t7_in (List.mem_of_getElem? (i := 130) rfl)
set_option maxRecDepth 20000 in
theorem tw_264 : (.fieldLink RX12 287 "LowEnergyModel" "begun" "[Z" : Cond) ∈ lw_tbl := t7_in (List.mem_of_getElem? (i := 131) rfl)
set_option maxRecDepth 20000 in
theorem tw_265 : (.fieldLink RX12 290 "LowEnergyModel" "said" "[B" : Cond) ∈ lw_tbl := t7_in (List.mem_of_getElem? (i := 132) rfl)
set_option maxRecDepth 20000 in
theorem tw_266 : (.fieldLink RX12 293 "LowEnergyModel" "asks" "[B" : Cond) ∈ lw_tbl := t7_in (List.mem_of_getElem? (i := 133) rfl)
set_option maxRecDepth 20000 in
theorem tw_267 : (.fieldLink RX12 296 "LowEnergyModel" "step" "[I" : Cond) ∈ lw_tbl := t7_in (List.mem_of_getElem? (i := 134) rfl)
set_option maxRecDepth 20000 in
theorem tw_268 : (.fieldLink RX12 299 "LowEnergyModel" "passkey" "[I" : Cond) ∈ lw_tbl := t7_in (List.mem_of_getElem? (i := 135) rfl)
set_option maxRecDepth 20000 in
theorem tw_269 : (.fieldLink RX12 302 "LowEnergyModel" "tk" "[I" : Cond) ∈ lw_tbl := t7_in (List.mem_of_getElem? (i := 136) rfl)
set_option maxRecDepth 20000 in
theorem tw_270 : (.fieldLink RX12 305 "LowEnergyModel" "firstTwo" "[B" : Cond) ∈ lw_tbl := t7_in (List.mem_of_getElem? (i := 137) rfl)
set_option maxRecDepth 20000 in
theorem tw_271 : (.fieldLink RX12 308 "LowEnergyModel" "confirm" "[B" : Cond) ∈ lw_tbl := t7_in (List.mem_of_getElem? (i := 138) rfl)
set_option maxRecDepth 20000 in
theorem tw_272 : (.fieldLink RX12 311 "LowEnergyModel" "ownRandom" "[B" : Cond) ∈ lw_tbl := t7_in (List.mem_of_getElem? (i := 139) rfl)
set_option maxRecDepth 20000 in
theorem tw_273 : (.fieldLink RX12 314 "LowEnergyModel" "tkRow" "[B" : Cond) ∈ lw_tbl := t7_in (List.mem_of_getElem? (i := 140) rfl)
set_option maxRecDepth 20000 in
theorem tw_274 : (.fieldLink RX12 317 "LowEnergyModel" "pair" "[B" : Cond) ∈ lw_tbl := t7_in (List.mem_of_getElem? (i := 141) rfl)
set_option maxRecDepth 20000 in
theorem tw_275 : (.fieldLink RX12 320 "LowEnergyModel" "attributes" "[I" : Cond) ∈ lw_tbl := t7_in (List.mem_of_getElem? (i := 142) rfl)
set_option maxRecDepth 20000 in
theorem tw_276 : (.fieldLink RX12 323 "LowEnergyModel" "type" "[I" : Cond) ∈ lw_tbl := t7_in (List.mem_of_getElem? (i := 143) rfl)
set_option maxRecDepth 20000 in
theorem tw_277 : (.fieldLink RX12 326 "LowEnergyModel" "rights" "[I" : Cond) ∈ lw_tbl := t7_in (List.mem_of_getElem? (i := 144) rfl)
set_option maxRecDepth 20000 in
theorem tw_278 : (.fieldLink RX12 329 "LowEnergyModel" "length" "[I" : Cond) ∈ lw_tbl := t7_in (List.mem_of_getElem? (i := 145) rfl)
set_option maxRecDepth 20000 in
theorem tw_279 : (.fieldLink RX12 332 "LowEnergyModel" "mtu" "[I" : Cond) ∈ lw_tbl := t7_in (List.mem_of_getElem? (i := 146) rfl)
set_option maxRecDepth 20000 in
theorem tw_280 : (.fieldLink RX12 335 "LowEnergyModel" "ownMtu" "[I" : Cond) ∈ lw_tbl := t7_in (List.mem_of_getElem? (i := 147) rfl)
set_option maxRecDepth 20000 in
theorem tw_281 : (.fieldLink RX12 338 "LowEnergyModel" "parts" "[I" : Cond) ∈ lw_tbl := t7_in (List.mem_of_getElem? (i := 148) rfl)
set_option maxRecDepth 20000 in
theorem tw_282 : (.fieldLink RX12 341 "LowEnergyModel" "values" "[B" : Cond) ∈ lw_tbl := t7_in (List.mem_of_getElem? (i := 149) rfl)
set_option maxRecDepth 20000 in
theorem tw_283 : (.fieldLink RX12 344 "LowEnergyModel" "partBytes" "[B" : Cond) ∈ lw_tbl := t7_in (List.mem_of_getElem? (i := 150) rfl)
set_option maxRecDepth 20000 in
theorem tw_284 : (.fieldLink RX12 347 "LowEnergyModel" "trial" "[B" : Cond) ∈ lw_tbl := t7_in (List.mem_of_getElem? (i := 151) rfl)
set_option maxRecDepth 20000 in
theorem tw_285 : (.fieldLink RX12 350 "LowEnergyModel" "partHandle" "[I" : Cond) ∈ lw_tbl := t7_in (List.mem_of_getElem? (i := 152) rfl)
set_option maxRecDepth 20000 in
theorem tw_286 : (.fieldLink RX12 353 "LowEnergyModel" "partPlace" "[I" : Cond) ∈ lw_tbl := t7_in (List.mem_of_getElem? (i := 153) rfl)
set_option maxRecDepth 20000 in
theorem tw_287 : (.fieldLink RX12 356 "LowEnergyModel" "partMany" "[I" : Cond) ∈ lw_tbl := t7_in (List.mem_of_getElem? (i := 154) rfl)
set_option maxRecDepth 20000 in
theorem tw_288 : (.fieldLink RX12 359 "LowEnergyModel" "trialLength" "[I" : Cond) ∈ lw_tbl := t7_in (List.mem_of_getElem? (i := 155) rfl)
set_option maxRecDepth 20000 in
theorem tw_289 : (.fieldLink RX12 362 "LowEnergyModel" "waits30" "[Z" : Cond) ∈ lw_tbl := t7_in (List.mem_of_getElem? (i := 156) rfl)
set_option maxRecDepth 20000 in
theorem tw_290 : (.fieldLink RX12 365 "LowEnergyModel" "job" "[I" : Cond) ∈ lw_tbl := t7_in (List.mem_of_getElem? (i := 157) rfl)
set_option maxRecDepth 20000 in
theorem tw_291 : (.fieldLink RX12 368 "LowEnergyModel" "jobA" "[I" : Cond) ∈ lw_tbl := t7_in (List.mem_of_getElem? (i := 158) rfl)
set_option maxRecDepth 20000 in
theorem tw_292 : (.fieldLink RX12 371 "LowEnergyModel" "jobB" "[I" : Cond) ∈ lw_tbl := t7_in (List.mem_of_getElem? (i := 159) rfl)
set_option maxRecDepth 20000 in
theorem tw_293 : (.fieldLink RX12 374 "LowEnergyModel" "due" "[I" : Cond) ∈ lw_tbl := t7_in (List.mem_of_getElem? (i := 160) rfl)
set_option maxRecDepth 20000 in
theorem tw_294 : (.fieldLink RX12 377 "LowEnergyModel" "place" "[I" : Cond) ∈ lw_tbl := t7_in (List.mem_of_getElem? (i := 161) rfl)
set_option maxRecDepth 20000 in
theorem tw_295 : (.fieldLink RX12 380 "LowEnergyModel" "jobMany" "[I" : Cond) ∈ lw_tbl := t7_in (List.mem_of_getElem? (i := 162) rfl)
set_option maxRecDepth 20000 in
theorem tw_296 : (.fieldLink RX12 383 "LowEnergyModel" "jobBytes" "[B" : Cond) ∈ lw_tbl := t7_in (List.mem_of_getElem? (i := 163) rfl)
set_option maxRecDepth 20000 in
theorem tw_297 : (.methodLink RX12 386 yX12_fillBox : Cond) ∈ lw_tbl := t7_in (List.mem_of_getElem? (i := 27) rfl)
set_option maxRecDepth 20000 in
theorem tw_298 : (.instanceMethod yX12_fillBox : Cond) ∈ lw_tbl := t7_in (List.mem_of_getElem? (i := 29) rfl)
set_option maxRecDepth 20000 in
theorem tw_299 : (.selects RX12 yX12_fillBox yX12_fillBox : Cond) ∈ lw_tbl := sel3_in (List.mem_of_getElem? (i := 14) rfl)
set_option maxRecDepth 20000 in
theorem tw_300 : (.code yX12_fillBox cX12_fillBox 5 none : Cond) ∈ lw_tbl := t7_in (List.mem_of_getElem? (i := 30) rfl)
set_option maxRecDepth 20000 in
theorem tw_301 : (.methodLink RX12 18 yX12_times : Cond) ∈ lw_tbl := t7_in (List.mem_of_getElem? (i := 31) rfl)
set_option maxRecDepth 20000 in
theorem tw_302 : (.static yX12_times : Cond) ∈ lw_tbl := t7_in (List.mem_of_getElem? (i := 32) rfl)
set_option maxRecDepth 20000 in
theorem tw_303 : (.code yX12_times cX12_times 5 (some .int) : Cond) ∈ lw_tbl := t7_in (List.mem_of_getElem? (i := 33) rfl)
set_option maxRecDepth 20000 in
theorem tw_304 : (.methodLink RX12 14 yX12_twice : Cond) ∈ lw_tbl := t7_in (List.mem_of_getElem? (i := 34) rfl)
set_option maxRecDepth 20000 in
theorem tw_305 : (.static yX12_twice : Cond) ∈ lw_tbl := t7_in (List.mem_of_getElem? (i := 35) rfl)
set_option maxRecDepth 20000 in
theorem tw_306 : (.code yX12_twice cX12_twice 1 (some .int) : Cond) ∈ lw_tbl := t7_in (List.mem_of_getElem? (i := 36) rfl)
set_option maxRecDepth 20000 in
theorem tw_307 : (.constantLong RX12 389 (281474976710655) : Cond) ∈ lw_tbl := t7_in (List.mem_of_getElem? (i := 37) rfl)
set_option maxRecDepth 20000 in
theorem tw_308 : (.methodLink RX12 391 yX12_fresh : Cond) ∈ lw_tbl := t7_in (List.mem_of_getElem? (i := 38) rfl)
set_option maxRecDepth 20000 in
theorem tw_309 : (.instanceMethod yX12_fresh : Cond) ∈ lw_tbl := t7_in (List.mem_of_getElem? (i := 40) rfl)
set_option maxRecDepth 20000 in
theorem tw_310 : (.selects RX12 yX12_fresh yX12_fresh : Cond) ∈ lw_tbl := sel3_in (List.mem_of_getElem? (i := 15) rfl)
set_option maxRecDepth 20000 in
theorem tw_311 : (.code yX12_fresh cX12_fresh 2 none : Cond) ∈ lw_tbl := t7_in (List.mem_of_getElem? (i := 41) rfl)
set_option maxRecDepth 20000 in
theorem tw_312 : (.methodLink RL 37 yX11_feed : Cond) ∈ lw_tbl := t3_in (List.mem_of_getElem? (i := 100) rfl)
set_option maxRecDepth 20000 in
theorem tw_313 : (.instanceMethod yX11_feed : Cond) ∈ lw_tbl := t3_in (List.mem_of_getElem? (i := 101) rfl)
set_option maxRecDepth 20000 in
theorem tw_314 : (.selects RX11 yX11_feed yX11_feed : Cond) ∈ lw_tbl := t3_in (List.mem_of_getElem? (i := 102) rfl)
set_option maxRecDepth 20000 in
theorem tw_315 : (.code yX11_feed cX11_feed 6 (some .int) : Cond) ∈ lw_tbl := t3_in (List.mem_of_getElem? (i := 103) rfl)
set_option maxRecDepth 20000 in
theorem tw_316 : (.methodLink RX11 46 yX9_putHighestFirst : Cond) ∈ lw_tbl := t3_in (List.mem_of_getElem? (i := 104) rfl)
set_option maxRecDepth 20000 in
theorem tw_317 : (.instanceMethod yX9_putHighestFirst : Cond) ∈ lw_tbl := t3_in (List.mem_of_getElem? (i := 105) rfl)
set_option maxRecDepth 20000 in
theorem tw_318 : (.selects RX9 yX9_putHighestFirst yX9_putHighestFirst : Cond) ∈ lw_tbl := t3_in (List.mem_of_getElem? (i := 106) rfl)
set_option maxRecDepth 20000 in
theorem tw_319 : (.code yX9_putHighestFirst cX9_putHighestFirst 3 none : Cond) ∈ lw_tbl := t3_in (List.mem_of_getElem? (i := 107) rfl)
set_option maxRecDepth 20000 in
theorem tw_320 : (.fieldLink RX9 21 "LowEnergy$Row" "size" "I" : Cond) ∈ lw_tbl := t1_in (List.mem_of_getElem? (i := 51) rfl)
set_option maxRecDepth 20000 in
theorem tw_321 : (.methodLink RL 41 yX12_feed : Cond) ∈ lw_tbl := t7_in (List.mem_of_getElem? (i := 13) rfl)
set_option maxRecDepth 20000 in
theorem tw_322 : (.instanceMethod yX12_feed : Cond) ∈ lw_tbl := t7_in (List.mem_of_getElem? (i := 14) rfl)
set_option maxRecDepth 20000 in
theorem tw_323 : (.selects RX12 yX12_feed yX12_feed : Cond) ∈ lw_tbl := t7_in (List.mem_of_getElem? (i := 15) rfl)
set_option maxRecDepth 20000 in
theorem tw_324 : (.code yX12_feed cX12_feed 8 (some .int) : Cond) ∈ lw_tbl := t7_in (List.mem_of_getElem? (i := 16) rfl)
set_option maxRecDepth 20000 in
theorem tw_325 : (.fieldLink RX12 1 "LowEnergyModel" "thrown" "I" : Cond) ∈ lw_tbl := t7_in (List.mem_of_getElem? (i := 42) rfl)
set_option maxRecDepth 20000 in
theorem tw_326 : (.fieldLink RX12 7 "LowEnergyModel" "taped" "I" : Cond) ∈ lw_tbl := t7_in (List.mem_of_getElem? (i := 44) rfl)
set_option maxRecDepth 20000 in
theorem tw_327 : (.methodLink RL 42 yX11_end : Cond) ∈ lw_tbl := t3_in (List.mem_of_getElem? (i := 108) rfl)
set_option maxRecDepth 20000 in
theorem tw_328 : (.instanceMethod yX11_end : Cond) ∈ lw_tbl := t3_in (List.mem_of_getElem? (i := 109) rfl)
set_option maxRecDepth 20000 in
theorem tw_329 : (.selects RX11 yX11_end yX11_end : Cond) ∈ lw_tbl := t3_in (List.mem_of_getElem? (i := 110) rfl)
set_option maxRecDepth 20000 in
theorem tw_330 : (.code yX11_end cX11_end 2 (some .int) : Cond) ∈ lw_tbl := t3_in (List.mem_of_getElem? (i := 111) rfl)
set_option maxRecDepth 20000 in
theorem tw_331 : (.methodLink RX11 49 yX9_cut : Cond) ∈ lw_tbl := t3_in (List.mem_of_getElem? (i := 112) rfl)
set_option maxRecDepth 20000 in
theorem tw_332 : (.instanceMethod yX9_cut : Cond) ∈ lw_tbl := t3_in (List.mem_of_getElem? (i := 113) rfl)
set_option maxRecDepth 20000 in
theorem tw_333 : (.selects RX9 yX9_cut yX9_cut : Cond) ∈ lw_tbl := t3_in (List.mem_of_getElem? (i := 114) rfl)
set_option maxRecDepth 20000 in
theorem tw_334 : (.code yX9_cut cX9_cut 2 none : Cond) ∈ lw_tbl := t3_in (List.mem_of_getElem? (i := 115) rfl)
set_option maxRecDepth 20000 in
theorem tw_335 : (.methodLink RL 45 yX12_end : Cond) ∈ lw_tbl := t7_in (List.mem_of_getElem? (i := 17) rfl)
set_option maxRecDepth 20000 in
theorem tw_336 : (.instanceMethod yX12_end : Cond) ∈ lw_tbl := t7_in (List.mem_of_getElem? (i := 18) rfl)
set_option maxRecDepth 20000 in
theorem tw_337 : (.selects RX12 yX12_end yX12_end : Cond) ∈ lw_tbl := t7_in (List.mem_of_getElem? (i := 19) rfl)
set_option maxRecDepth 20000 in
theorem tw_338 : (.code yX12_end cX12_end 2 (some .int) : Cond) ∈ lw_tbl := t7_in (List.mem_of_getElem? (i := 20) rfl)
set_option maxRecDepth 20000 in
theorem tw_339 : (.methodLink RL 46 yX11_seed : Cond) ∈ lw_tbl := t3_in (List.mem_of_getElem? (i := 116) rfl)
set_option maxRecDepth 20000 in
theorem tw_340 : (.instanceMethod yX11_seed : Cond) ∈ lw_tbl := t3_in (List.mem_of_getElem? (i := 117) rfl)
set_option maxRecDepth 20000 in
theorem tw_341 : (.selects RX11 yX11_seed yX11_seed : Cond) ∈ lw_tbl := t3_in (List.mem_of_getElem? (i := 118) rfl)
set_option maxRecDepth 20000 in
theorem tw_342 : (.code yX11_seed cX11_seed 4 (some .boolean) : Cond) ∈ lw_tbl := t3_in (List.mem_of_getElem? (i := 119) rfl)
set_option maxRecDepth 20000 in
theorem tw_343 : (.methodLink RX11 52 yX11_find : Cond) ∈ lw_tbl := t3_in (List.mem_of_getElem? (i := 120) rfl)
set_option maxRecDepth 20000 in
theorem tw_344 : (.instanceMethod yX11_find : Cond) ∈ lw_tbl := t3_in (List.mem_of_getElem? (i := 122) rfl)
set_option maxRecDepth 20000 in
theorem tw_345 : (.selects RX11 yX11_find yX11_find : Cond) ∈ lw_tbl := sel1_in (List.mem_of_getElem? (i := 0) rfl)
set_option maxRecDepth 20000 in
theorem tw_346 : (.code yX11_find cX11_find 2 (some (.object "LowEnergy$Device")) : Cond) ∈ lw_tbl := t3_in (List.mem_of_getElem? (i := 123) rfl)
set_option maxRecDepth 20000 in
theorem tw_347 : (.methodLink RL 50 yX12_seed : Cond) ∈ lw_tbl := t10_in (List.mem_of_getElem? (i := 12) rfl)
set_option maxRecDepth 20000 in
theorem tw_348 : (.instanceMethod yX12_seed : Cond) ∈ lw_tbl := t10_in (List.mem_of_getElem? (i := 13) rfl)
set_option maxRecDepth 20000 in
theorem tw_349 : (.selects RX12 yX12_seed yX12_seed : Cond) ∈ lw_tbl := t10_in (List.mem_of_getElem? (i := 14) rfl)
set_option maxRecDepth 20000 in
theorem tw_350 : (.code yX12_seed cX12_seed 3 (some .boolean) : Cond) ∈ lw_tbl := t10_in (List.mem_of_getElem? (i := 15) rfl)
set_option maxRecDepth 20000 in
theorem tw_351 : (.methodLink RX12 413 yX12_in : Cond) ∈ lw_tbl := t8_in (List.mem_of_getElem? (i := 177) rfl)
set_option maxRecDepth 20000 in
theorem tw_352 : (.static yX12_in : Cond) ∈ lw_tbl := t8_in (List.mem_of_getElem? (i := 178) rfl)
set_option maxRecDepth 20000 in
theorem tw_353 : (.code yX12_in cX12_in 2 (some .boolean) : Cond) ∈ lw_tbl := t8_in (List.mem_of_getElem? (i := 179) rfl)
set_option maxRecDepth 20000 in
theorem tw_354 : (.methodLink RL 51 yX11_advertise : Cond) ∈ lw_tbl := t3_in (List.mem_of_getElem? (i := 124) rfl)
set_option maxRecDepth 20000 in
theorem tw_355 : (.instanceMethod yX11_advertise : Cond) ∈ lw_tbl := t3_in (List.mem_of_getElem? (i := 125) rfl)
set_option maxRecDepth 20000 in
theorem tw_356 : (.selects RX11 yX11_advertise yX11_advertise : Cond) ∈ lw_tbl := t3_in (List.mem_of_getElem? (i := 126) rfl)
set_option maxRecDepth 20000 in
theorem tw_357 : (.code yX11_advertise cX11_advertise 4 (some .boolean) : Cond) ∈ lw_tbl := t3_in (List.mem_of_getElem? (i := 127) rfl)
set_option maxRecDepth 20000 in
theorem tw_358 : (.fieldLink RX11 65 "LowEnergy" "now" "I" : Cond) ∈ lw_tbl := t3_in (List.mem_of_getElem? (i := 88) rfl)
set_option maxRecDepth 20000 in
theorem tw_359 : (.methodLink RX11 74 yX9_become : Cond) ∈ lw_tbl := t3_in (List.mem_of_getElem? (i := 128) rfl)
set_option maxRecDepth 20000 in
theorem tw_360 : (.instanceMethod yX9_become : Cond) ∈ lw_tbl := t3_in (List.mem_of_getElem? (i := 129) rfl)
set_option maxRecDepth 20000 in
theorem tw_361 : (.selects RX9 yX9_become yX9_become : Cond) ∈ lw_tbl := t3_in (List.mem_of_getElem? (i := 130) rfl)
set_option maxRecDepth 20000 in
theorem tw_362 : (.code yX9_become cX9_become 2 none : Cond) ∈ lw_tbl := t3_in (List.mem_of_getElem? (i := 131) rfl)
set_option maxRecDepth 20000 in
theorem tw_363 : (.methodLink RX9 27 yX9_putPart : Cond) ∈ lw_tbl := t3_in (List.mem_of_getElem? (i := 132) rfl)
set_option maxRecDepth 20000 in
theorem tw_364 : (.instanceMethod yX9_putPart : Cond) ∈ lw_tbl := t3_in (List.mem_of_getElem? (i := 133) rfl)
set_option maxRecDepth 20000 in
theorem tw_365 : (.selects RX9 yX9_putPart yX9_putPart : Cond) ∈ lw_tbl := t3_in (List.mem_of_getElem? (i := 134) rfl)
set_option maxRecDepth 20000 in
theorem tw_366 : (.code yX9_putPart cX9_putPart 6 none : Cond) ∈ lw_tbl := t3_in (List.mem_of_getElem? (i := 135) rfl)
set_option maxRecDepth 20000 in
theorem tw_367 : (.methodLink RX11 78 yX9_clear : Cond) ∈ lw_tbl := t3_in (List.mem_of_getElem? (i := 136) rfl)
set_option maxRecDepth 20000 in
theorem tw_368 : (.instanceMethod yX9_clear : Cond) ∈ lw_tbl := t3_in (List.mem_of_getElem? (i := 137) rfl)
set_option maxRecDepth 20000 in
theorem tw_369 : (.selects RX9 yX9_clear yX9_clear : Cond) ∈ lw_tbl := t3_in (List.mem_of_getElem? (i := 138) rfl)
set_option maxRecDepth 20000 in
theorem tw_370 : (.code yX9_clear cX9_clear 1 none : Cond) ∈ lw_tbl := t3_in (List.mem_of_getElem? (i := 139) rfl)
set_option maxRecDepth 20000 in
theorem tw_371 : (.methodLink RL 54 yX12_advertise : Cond) ∈ lw_tbl := t10_in (List.mem_of_getElem? (i := 16) rfl)
set_option maxRecDepth 20000 in
theorem tw_372 : (.instanceMethod yX12_advertise : Cond) ∈ lw_tbl := t10_in (List.mem_of_getElem? (i := 17) rfl)
set_option maxRecDepth 20000 in
theorem tw_373 : (.selects RX12 yX12_advertise yX12_advertise : Cond) ∈ lw_tbl := t10_in (List.mem_of_getElem? (i := 18) rfl)
set_option maxRecDepth 20000 in
theorem tw_374 : (.code yX12_advertise cX12_advertise 3 (some .boolean) : Cond) ∈ lw_tbl := t10_in (List.mem_of_getElem? (i := 19) rfl)
set_option maxRecDepth 20000 in
theorem tw_375 : (.methodLink RX12 678 yX12_isStandby : Cond) ∈ lw_tbl := t10_in (List.mem_of_getElem? (i := 20) rfl)
set_option maxRecDepth 20000 in
theorem tw_376 : (.instanceMethod yX12_isStandby : Cond) ∈ lw_tbl := t10_in (List.mem_of_getElem? (i := 22) rfl)
set_option maxRecDepth 20000 in
theorem tw_377 : (.selects RX12 yX12_isStandby yX12_isStandby : Cond) ∈ lw_tbl := sel8_in (List.mem_of_getElem? (i := 1) rfl)
set_option maxRecDepth 20000 in
theorem tw_378 : (.code yX12_isStandby cX12_isStandby 2 (some .boolean) : Cond) ∈ lw_tbl := t10_in (List.mem_of_getElem? (i := 23) rfl)
set_option maxRecDepth 20000 in
theorem tw_379 : (.fieldLink RX12 470 "LowEnergyModel" "t" "I" : Cond) ∈ lw_tbl := t7_in (List.mem_of_getElem? (i := 85) rfl)
set_option maxRecDepth 20000 in
theorem tw_380 : (.methodLink RX12 29 yX12_copy : Cond) ∈ lw_tbl := t8_in (List.mem_of_getElem? (i := 208) rfl)
set_option maxRecDepth 20000 in
theorem tw_381 : (.static yX12_copy : Cond) ∈ lw_tbl := t8_in (List.mem_of_getElem? (i := 209) rfl)
set_option maxRecDepth 20000 in
theorem tw_382 : (.code yX12_copy cX12_copy 6 none : Cond) ∈ lw_tbl := t8_in (List.mem_of_getElem? (i := 210) rfl)
set_option maxRecDepth 20000 in
theorem tw_383 : (.methodLink RL 55 yX11_scan : Cond) ∈ lw_tbl := t3_in (List.mem_of_getElem? (i := 140) rfl)
set_option maxRecDepth 20000 in
theorem tw_384 : (.instanceMethod yX11_scan : Cond) ∈ lw_tbl := t3_in (List.mem_of_getElem? (i := 141) rfl)
set_option maxRecDepth 20000 in
theorem tw_385 : (.selects RX11 yX11_scan yX11_scan : Cond) ∈ lw_tbl := t3_in (List.mem_of_getElem? (i := 142) rfl)
set_option maxRecDepth 20000 in
theorem tw_386 : (.code yX11_scan cX11_scan 3 (some .boolean) : Cond) ∈ lw_tbl := t3_in (List.mem_of_getElem? (i := 143) rfl)
set_option maxRecDepth 20000 in
theorem tw_387 : (.methodLink RL 59 yX12_scan : Cond) ∈ lw_tbl := t10_in (List.mem_of_getElem? (i := 24) rfl)
set_option maxRecDepth 20000 in
theorem tw_388 : (.instanceMethod yX12_scan : Cond) ∈ lw_tbl := t10_in (List.mem_of_getElem? (i := 25) rfl)
set_option maxRecDepth 20000 in
theorem tw_389 : (.selects RX12 yX12_scan yX12_scan : Cond) ∈ lw_tbl := t10_in (List.mem_of_getElem? (i := 26) rfl)
set_option maxRecDepth 20000 in
theorem tw_390 : (.code yX12_scan cX12_scan 2 (some .boolean) : Cond) ∈ lw_tbl := t10_in (List.mem_of_getElem? (i := 27) rfl)
set_option maxRecDepth 20000 in
theorem tw_391 : (.constantLong RL 60 (4294967295) : Cond) ∈ lw_tbl := t10_in (List.mem_of_getElem? (i := 119) rfl)
set_option maxRecDepth 20000 in
theorem tw_392 : (.methodLink RL 62 yX11_connect : Cond) ∈ lw_tbl := t3_in (List.mem_of_getElem? (i := 144) rfl)
set_option maxRecDepth 20000 in
theorem tw_393 : (.instanceMethod yX11_connect : Cond) ∈ lw_tbl := t3_in (List.mem_of_getElem? (i := 145) rfl)
set_option maxRecDepth 20000 in
theorem tw_394 : (.selects RX11 yX11_connect yX11_connect : Cond) ∈ lw_tbl := t3_in (List.mem_of_getElem? (i := 146) rfl)
set_option maxRecDepth 20000 in
theorem tw_395 : (.code yX11_connect cX11_connect 10 (some .boolean) : Cond) ∈ lw_tbl := t3_in (List.mem_of_getElem? (i := 147) rfl)
set_option maxRecDepth 20000 in
theorem tw_396 : (.methodLink RX11 81 yX6_isProper : Cond) ∈ lw_tbl := t3_in (List.mem_of_getElem? (i := 148) rfl)
set_option maxRecDepth 20000 in
theorem tw_397 : (.static yX6_isProper : Cond) ∈ lw_tbl := t3_in (List.mem_of_getElem? (i := 149) rfl)
set_option maxRecDepth 20000 in
theorem tw_398 : (.code yX6_isProper cX6_isProper 5 (some .boolean) : Cond) ∈ lw_tbl := t3_in (List.mem_of_getElem? (i := 150) rfl)
set_option maxRecDepth 20000 in
theorem tw_399 : (.methodLink RX6 21 yX6_isProperMap : Cond) ∈ lw_tbl := t3_in (List.mem_of_getElem? (i := 151) rfl)
set_option maxRecDepth 20000 in
theorem tw_400 : (.static yX6_isProperMap : Cond) ∈ lw_tbl := t3_in (List.mem_of_getElem? (i := 152) rfl)
set_option maxRecDepth 20000 in
theorem tw_401 : (.code yX6_isProperMap cX6_isProperMap 2 (some .boolean) : Cond) ∈ lw_tbl := t3_in (List.mem_of_getElem? (i := 153) rfl)
set_option maxRecDepth 20000 in
theorem tw_402 : (.methodLink RX6 25 yJ13_bitCount_95d88 : Cond) ∈ lw_tbl := t3_in (List.mem_of_getElem? (i := 154) rfl)
set_option maxRecDepth 20000 in
theorem tw_403 : (.static yJ13_bitCount_95d88 : Cond) ∈ lw_tbl := t3_in (List.mem_of_getElem? (i := 155) rfl)
set_option maxRecDepth 20000 in
theorem tw_404 : (.initialized RJ13 : Cond) ∈ lw_tbl := t1_in (List.mem_of_getElem? (i := 15) rfl)
set_option maxRecDepth 20000 in
theorem tw_405 : (.code yJ13_bitCount_95d88 cJ13_bitCount_95d88 2 (some .int) : Cond) ∈ lw_tbl := t3_in (List.mem_of_getElem? (i := 156) rfl)
set_option maxRecDepth 20000 in
theorem tw_406 : (.constantLong RJ13 314 (6148914691236517205) : Cond) ∈ lw_tbl := t3_in (List.mem_of_getElem? (i := 157) rfl)
set_option maxRecDepth 20000 in
theorem tw_407 : (.constantLong RJ13 316 (3689348814741910323) : Cond) ∈ lw_tbl := t3_in (List.mem_of_getElem? (i := 158) rfl)
set_option maxRecDepth 20000 in
theorem tw_408 : (.constantLong RJ13 318 (1085102592571150095) : Cond) ∈ lw_tbl := t3_in (List.mem_of_getElem? (i := 159) rfl)
set_option maxRecDepth 20000 in
theorem tw_409 : (.methodLink RX11 91 yX6_arrange : Cond) ∈ lw_tbl := t3_in (List.mem_of_getElem? (i := 160) rfl)
set_option maxRecDepth 20000 in
theorem tw_410 : (.instanceMethod yX6_arrange : Cond) ∈ lw_tbl := t3_in (List.mem_of_getElem? (i := 161) rfl)
set_option maxRecDepth 20000 in
theorem tw_411 : (.selects RX6 yX6_arrange yX6_arrange : Cond) ∈ lw_tbl := t3_in (List.mem_of_getElem? (i := 162) rfl)
set_option maxRecDepth 20000 in
theorem tw_412 : (.code yX6_arrange cX6_arrange 6 none : Cond) ∈ lw_tbl := t3_in (List.mem_of_getElem? (i := 163) rfl)
set_option maxRecDepth 20000 in
theorem tw_413 : (.fieldLink RX6 31 "LowEnergy$Link" "interval" "I" : Cond) ∈ lw_tbl := t1_in (List.mem_of_getElem? (i := 134) rfl)
set_option maxRecDepth 20000 in
theorem tw_414 : (.fieldLink RX6 34 "LowEnergy$Link" "timeout" "I" : Cond) ∈ lw_tbl := t1_in (List.mem_of_getElem? (i := 136) rfl)
set_option maxRecDepth 20000 in
theorem tw_415 : (.fieldLink RX6 37 "LowEnergy$Link" "hop" "I" : Cond) ∈ lw_tbl := t1_in (List.mem_of_getElem? (i := 138) rfl)
set_option maxRecDepth 20000 in
theorem tw_416 : (.fieldLink RX6 40 "LowEnergy$Link" "map" "J" : Cond) ∈ lw_tbl := t1_in (List.mem_of_getElem? (i := 140) rfl)
set_option maxRecDepth 20000 in
theorem tw_417 : (.methodLink RL 66 yX12_connect : Cond) ∈ lw_tbl := t10_in (List.mem_of_getElem? (i := 28) rfl)
set_option maxRecDepth 20000 in
theorem tw_418 : (.instanceMethod yX12_connect : Cond) ∈ lw_tbl := t10_in (List.mem_of_getElem? (i := 29) rfl)
set_option maxRecDepth 20000 in
theorem tw_419 : (.selects RX12 yX12_connect yX12_connect : Cond) ∈ lw_tbl := t10_in (List.mem_of_getElem? (i := 30) rfl)
set_option maxRecDepth 20000 in
theorem tw_420 : (.code yX12_connect cX12_connect 9 (some .boolean) : Cond) ∈ lw_tbl := t10_in (List.mem_of_getElem? (i := 31) rfl)
set_option maxRecDepth 20000 in
theorem tw_421 : (.methodLink RX12 497 yX12_isMap : Cond) ∈ lw_tbl := t9_in (List.mem_of_getElem? (i := 19) rfl)
set_option maxRecDepth 20000 in
theorem tw_422 : (.static yX12_isMap : Cond) ∈ lw_tbl := t9_in (List.mem_of_getElem? (i := 20) rfl)
set_option maxRecDepth 20000 in
theorem tw_423 : (.code yX12_isMap cX12_isMap 2 (some .boolean) : Cond) ∈ lw_tbl := t9_in (List.mem_of_getElem? (i := 21) rfl)
set_option maxRecDepth 20000 in
theorem tw_424 : (.constantLong RX12 396 (137438953472) : Cond) ∈ lw_tbl := t9_in (List.mem_of_getElem? (i := 22) rfl)
set_option maxRecDepth 20000 in
theorem tw_425 : (.methodLink RX12 398 yJ13_bitCount_95d88 : Cond) ∈ lw_tbl := t9_in (List.mem_of_getElem? (i := 23) rfl)
set_option maxRecDepth 20000 in
theorem tw_426 : (.methodLink RL 67 yX11_stop : Cond) ∈ lw_tbl := t3_in (List.mem_of_getElem? (i := 164) rfl)
set_option maxRecDepth 20000 in
theorem tw_427 : (.instanceMethod yX11_stop : Cond) ∈ lw_tbl := t3_in (List.mem_of_getElem? (i := 165) rfl)
set_option maxRecDepth 20000 in
theorem tw_428 : (.selects RX11 yX11_stop yX11_stop : Cond) ∈ lw_tbl := t3_in (List.mem_of_getElem? (i := 166) rfl)
set_option maxRecDepth 20000 in
theorem tw_429 : (.code yX11_stop cX11_stop 3 (some .boolean) : Cond) ∈ lw_tbl := t3_in (List.mem_of_getElem? (i := 167) rfl)
set_option maxRecDepth 20000 in
theorem tw_430 : (.methodLink RL 70 yX12_stop : Cond) ∈ lw_tbl := t10_in (List.mem_of_getElem? (i := 32) rfl)
set_option maxRecDepth 20000 in
theorem tw_431 : (.instanceMethod yX12_stop : Cond) ∈ lw_tbl := t10_in (List.mem_of_getElem? (i := 33) rfl)
set_option maxRecDepth 20000 in
theorem tw_432 : (.selects RX12 yX12_stop yX12_stop : Cond) ∈ lw_tbl := t10_in (List.mem_of_getElem? (i := 34) rfl)
set_option maxRecDepth 20000 in
theorem tw_433 : (.code yX12_stop cX12_stop 2 (some .boolean) : Cond) ∈ lw_tbl := t10_in (List.mem_of_getElem? (i := 35) rfl)
set_option maxRecDepth 20000 in
theorem tw_434 : (.methodLink RL 71 yL_tick : Cond) ∈ lw_tbl := t4_in (List.mem_of_getElem? (i := 171) rfl)
set_option maxRecDepth 20000 in
theorem tw_435 : (.static yL_tick : Cond) ∈ lw_tbl := t4_in (List.mem_of_getElem? (i := 172) rfl)
set_option maxRecDepth 20000 in
theorem tw_436 : (.codeWith yL_tick cL_tick 4 (some .int) [(0, 9, 12, 13)] : Cond) ∈ lw_tbl := t4_in (List.mem_of_getElem? (i := 173) rfl)
set_option maxRecDepth 20000 in
theorem tw_437 : (.methodLink RL 7 yX11_tick : Cond) ∈ lw_tbl := t4_in (List.mem_of_getElem? (i := 175) rfl)
set_option maxRecDepth 20000 in
theorem tw_438 : (.instanceMethod yX11_tick : Cond) ∈ lw_tbl := t4_in (List.mem_of_getElem? (i := 176) rfl)
set_option maxRecDepth 20000 in
theorem tw_439 : (.selects RX11 yX11_tick yX11_tick : Cond) ∈ lw_tbl := t4_in (List.mem_of_getElem? (i := 177) rfl)
set_option maxRecDepth 20000 in
theorem tw_440 : (.code yX11_tick cX11_tick 7 (some .int) : Cond) ∈ lw_tbl := t4_in (List.mem_of_getElem? (i := 178) rfl)
set_option maxRecDepth 20000 in
theorem tw_441 : (.classLink RX11 388 tIA : Cond) ∈ lw_tbl := t4_in (List.mem_of_getElem? (i := 179) rfl)
set_option maxRecDepth 20000 in
theorem tw_442 : (.initialized tIA : Cond) ∈ lw_tbl := t1_in (List.mem_of_getElem? (i := 19) rfl)
set_option maxRecDepth 20000 in
theorem tw_443 : (.classLink RL 13 tIA : Cond) ∈ lw_tbl := t4_in (List.mem_of_getElem? (i := 174) rfl)
set_option maxRecDepth 20000 in
theorem tw_444 : (.methodLink RL 74 yX12_tick : Cond) ∈ lw_tbl := t8_in (List.mem_of_getElem? (i := 184) rfl)
set_option maxRecDepth 20000 in
theorem tw_445 : (.instanceMethod yX12_tick : Cond) ∈ lw_tbl := t8_in (List.mem_of_getElem? (i := 185) rfl)
set_option maxRecDepth 20000 in
theorem tw_446 : (.selects RX12 yX12_tick yX12_tick : Cond) ∈ lw_tbl := t8_in (List.mem_of_getElem? (i := 186) rfl)
set_option maxRecDepth 20000 in
theorem tw_447 : (.code yX12_tick cX12_tick 4 (some .int) : Cond) ∈ lw_tbl := t8_in (List.mem_of_getElem? (i := 187) rfl)
set_option maxRecDepth 20000 in
theorem tw_448 : (.methodLink RL 75 yX12_thrown : Cond) ∈ lw_tbl := t7_in (List.mem_of_getElem? (i := 9) rfl)
set_option maxRecDepth 20000 in
theorem tw_449 : (.instanceMethod yX12_thrown : Cond) ∈ lw_tbl := t7_in (List.mem_of_getElem? (i := 10) rfl)
set_option maxRecDepth 20000 in
theorem tw_450 : (.selects RX12 yX12_thrown yX12_thrown : Cond) ∈ lw_tbl := t7_in (List.mem_of_getElem? (i := 11) rfl)
set_option maxRecDepth 20000 in
theorem tw_451 : (.code yX12_thrown cX12_thrown 1 (some .int) : Cond) ∈ lw_tbl := t7_in (List.mem_of_getElem? (i := 12) rfl)
set_option maxRecDepth 20000 in
theorem tw_452 : (.methodLink RX11 393 yX0_clear : Cond) ∈ lw_tbl := t5_in (List.mem_of_getElem? (i := 6) rfl)
set_option maxRecDepth 20000 in
theorem tw_453 : (.instanceMethod yX0_clear : Cond) ∈ lw_tbl := t5_in (List.mem_of_getElem? (i := 7) rfl)
set_option maxRecDepth 20000 in
theorem tw_454 : (.selects RX0 yX0_clear yX0_clear : Cond) ∈ lw_tbl := t5_in (List.mem_of_getElem? (i := 8) rfl)
set_option maxRecDepth 20000 in
theorem tw_455 : (.code yX0_clear cX0_clear 1 none : Cond) ∈ lw_tbl := t5_in (List.mem_of_getElem? (i := 9) rfl)
set_option maxRecDepth 20000 in
theorem tw_456 : (.fieldLink RX0 42 "LowEnergy$Air" "count" "I" : Cond) ∈ lw_tbl := t1_in (List.mem_of_getElem? (i := 77) rfl)
set_option maxRecDepth 20000 in
theorem tw_457 : (.methodLink RX11 394 yX11_spread : Cond) ∈ lw_tbl := t5_in (List.mem_of_getElem? (i := 10) rfl)
set_option maxRecDepth 20000 in
theorem tw_458 : (.instanceMethod yX11_spread : Cond) ∈ lw_tbl := t5_in (List.mem_of_getElem? (i := 12) rfl)
set_option maxRecDepth 20000 in
theorem tw_459 : (.selects RX11 yX11_spread yX11_spread : Cond) ∈ lw_tbl := sel1_in (List.mem_of_getElem? (i := 8) rfl)
set_option maxRecDepth 20000 in
theorem tw_460 : (.code yX11_spread cX11_spread 4 none : Cond) ∈ lw_tbl := t5_in (List.mem_of_getElem? (i := 13) rfl)
set_option maxRecDepth 20000 in
theorem tw_461 : (.methodLink RX11 398 yX11_beginEvents : Cond) ∈ lw_tbl := t5_in (List.mem_of_getElem? (i := 97) rfl)
set_option maxRecDepth 20000 in
theorem tw_462 : (.instanceMethod yX11_beginEvents : Cond) ∈ lw_tbl := t5_in (List.mem_of_getElem? (i := 99) rfl)
set_option maxRecDepth 20000 in
theorem tw_463 : (.selects RX11 yX11_beginEvents yX11_beginEvents : Cond) ∈ lw_tbl := sel1_in (List.mem_of_getElem? (i := 12) rfl)
set_option maxRecDepth 20000 in
theorem tw_464 : (.code yX11_beginEvents cX11_beginEvents 2 none : Cond) ∈ lw_tbl := t5_in (List.mem_of_getElem? (i := 100) rfl)
set_option maxRecDepth 20000 in
theorem tw_465 : (.methodLink RX11 483 yX3_hasEventAt : Cond) ∈ lw_tbl := t5_in (List.mem_of_getElem? (i := 101) rfl)
set_option maxRecDepth 20000 in
theorem tw_466 : (.instanceMethod yX3_hasEventAt : Cond) ∈ lw_tbl := t5_in (List.mem_of_getElem? (i := 102) rfl)
set_option maxRecDepth 20000 in
theorem tw_467 : (.selects RX3 yX3_hasEventAt yX3_hasEventAt : Cond) ∈ lw_tbl := t5_in (List.mem_of_getElem? (i := 103) rfl)
set_option maxRecDepth 20000 in
theorem tw_468 : (.code yX3_hasEventAt cX3_hasEventAt 2 (some .boolean) : Cond) ∈ lw_tbl := t5_in (List.mem_of_getElem? (i := 104) rfl)
set_option maxRecDepth 20000 in
theorem tw_469 : (.methodLink RX3 96 yX3_inLink : Cond) ∈ lw_tbl := t5_in (List.mem_of_getElem? (i := 105) rfl)
set_option maxRecDepth 20000 in
theorem tw_470 : (.instanceMethod yX3_inLink : Cond) ∈ lw_tbl := t3_in (List.mem_of_getElem? (i := 169) rfl)
set_option maxRecDepth 20000 in
theorem tw_471 : (.selects RX3 yX3_inLink yX3_inLink : Cond) ∈ lw_tbl := t3_in (List.mem_of_getElem? (i := 170) rfl)
set_option maxRecDepth 20000 in
theorem tw_472 : (.code yX3_inLink cX3_inLink 1 (some .boolean) : Cond) ∈ lw_tbl := t3_in (List.mem_of_getElem? (i := 171) rfl)
set_option maxRecDepth 20000 in
theorem tw_473 : (.fieldLink RX3 93 "LowEnergy$Device" "state" "I" : Cond) ∈ lw_tbl := t3_in (List.mem_of_getElem? (i := 11) rfl)
set_option maxRecDepth 20000 in
theorem tw_474 : (.methodLink RX11 401 yX11_reaches : Cond) ∈ lw_tbl := t5_in (List.mem_of_getElem? (i := 113) rfl)
set_option maxRecDepth 20000 in
theorem tw_475 : (.instanceMethod yX11_reaches : Cond) ∈ lw_tbl := t5_in (List.mem_of_getElem? (i := 115) rfl)
set_option maxRecDepth 20000 in
theorem tw_476 : (.selects RX11 yX11_reaches yX11_reaches : Cond) ∈ lw_tbl := sel1_in (List.mem_of_getElem? (i := 13) rfl)
set_option maxRecDepth 20000 in
theorem tw_477 : (.code yX11_reaches cX11_reaches 3 (some .boolean) : Cond) ∈ lw_tbl := t5_in (List.mem_of_getElem? (i := 116) rfl)
set_option maxRecDepth 20000 in
theorem tw_478 : (.methodLink RX11 416 yX11_endEvents : Cond) ∈ lw_tbl := t6_in (List.mem_of_getElem? (i := 177) rfl)
set_option maxRecDepth 20000 in
theorem tw_479 : (.instanceMethod yX11_endEvents : Cond) ∈ lw_tbl := t6_in (List.mem_of_getElem? (i := 179) rfl)
set_option maxRecDepth 20000 in
theorem tw_480 : (.selects RX11 yX11_endEvents yX11_endEvents : Cond) ∈ lw_tbl := sel3_in (List.mem_of_getElem? (i := 12) rfl)
set_option maxRecDepth 20000 in
theorem tw_481 : (.code yX11_endEvents cX11_endEvents 2 none : Cond) ∈ lw_tbl := t6_in (List.mem_of_getElem? (i := 180) rfl)
set_option maxRecDepth 20000 in
theorem tw_482 : (.methodLink RX11 419 yX11_endLinks : Cond) ∈ lw_tbl := t6_in (List.mem_of_getElem? (i := 185) rfl)
set_option maxRecDepth 20000 in
theorem tw_483 : (.instanceMethod yX11_endLinks : Cond) ∈ lw_tbl := t6_in (List.mem_of_getElem? (i := 187) rfl)
set_option maxRecDepth 20000 in
theorem tw_484 : (.selects RX11 yX11_endLinks yX11_endLinks : Cond) ∈ lw_tbl := sel3_in (List.mem_of_getElem? (i := 13) rfl)
set_option maxRecDepth 20000 in
theorem tw_485 : (.code yX11_endLinks cX11_endLinks 4 none : Cond) ∈ lw_tbl := t6_in (List.mem_of_getElem? (i := 188) rfl)
set_option maxRecDepth 20000 in
theorem tw_486 : (.methodLink RX11 99 yX3_inLink : Cond) ∈ lw_tbl := t3_in (List.mem_of_getElem? (i := 168) rfl)
set_option maxRecDepth 20000 in
theorem tw_487 : (.methodLink RX12 675 yX12_one : Cond) ∈ lw_tbl := t8_in (List.mem_of_getElem? (i := 188) rfl)
set_option maxRecDepth 20000 in
theorem tw_488 : (.instanceMethod yX12_one : Cond) ∈ lw_tbl := t8_in (List.mem_of_getElem? (i := 190) rfl)
set_option maxRecDepth 20000 in
theorem tw_489 : (.selects RX12 yX12_one yX12_one : Cond) ∈ lw_tbl := sel4_in (List.mem_of_getElem? (i := 0) rfl)
set_option maxRecDepth 20000 in
theorem tw_490 : (.code yX12_one cX12_one 2 none : Cond) ∈ lw_tbl := t8_in (List.mem_of_getElem? (i := 191) rfl)
set_option maxRecDepth 20000 in
theorem tw_491 : (.fieldLink RX12 429 "LowEnergyModel" "packets" "I" : Cond) ∈ lw_tbl := t7_in (List.mem_of_getElem? (i := 93) rfl)
set_option maxRecDepth 20000 in
theorem tw_492 : (.methodLink RX12 662 yX12_isLinked : Cond) ∈ lw_tbl := t9_in (List.mem_of_getElem? (i := 24) rfl)
set_option maxRecDepth 20000 in
theorem tw_493 : (.instanceMethod yX12_isLinked : Cond) ∈ lw_tbl := t9_in (List.mem_of_getElem? (i := 26) rfl)
set_option maxRecDepth 20000 in
theorem tw_494 : (.selects RX12 yX12_isLinked yX12_isLinked : Cond) ∈ lw_tbl := sel4_in (List.mem_of_getElem? (i := 11) rfl)
set_option maxRecDepth 20000 in
theorem tw_495 : (.code yX12_isLinked cX12_isLinked 2 (some .boolean) : Cond) ∈ lw_tbl := t9_in (List.mem_of_getElem? (i := 27) rfl)
set_option maxRecDepth 20000 in
theorem tw_496 : (.methodLink RL 79 yX11_noise : Cond) ∈ lw_tbl := t3_in (List.mem_of_getElem? (i := 172) rfl)
set_option maxRecDepth 20000 in
theorem tw_497 : (.instanceMethod yX11_noise : Cond) ∈ lw_tbl := t3_in (List.mem_of_getElem? (i := 173) rfl)
set_option maxRecDepth 20000 in
theorem tw_498 : (.selects RX11 yX11_noise yX11_noise : Cond) ∈ lw_tbl := t3_in (List.mem_of_getElem? (i := 174) rfl)
set_option maxRecDepth 20000 in
theorem tw_499 : (.code yX11_noise cX11_noise 3 (some .boolean) : Cond) ∈ lw_tbl := t3_in (List.mem_of_getElem? (i := 175) rfl)
set_option maxRecDepth 20000 in
theorem tw_500 : (.methodLink RX11 103 yX0_disturbNext : Cond) ∈ lw_tbl := t3_in (List.mem_of_getElem? (i := 176) rfl)
set_option maxRecDepth 20000 in
theorem tw_501 : (.instanceMethod yX0_disturbNext : Cond) ∈ lw_tbl := t3_in (List.mem_of_getElem? (i := 177) rfl)
set_option maxRecDepth 20000 in
theorem tw_502 : (.selects RX0 yX0_disturbNext yX0_disturbNext : Cond) ∈ lw_tbl := t3_in (List.mem_of_getElem? (i := 178) rfl)
set_option maxRecDepth 20000 in
theorem tw_503 : (.code yX0_disturbNext cX0_disturbNext 3 (some .boolean) : Cond) ∈ lw_tbl := t3_in (List.mem_of_getElem? (i := 179) rfl)
set_option maxRecDepth 20000 in
theorem tw_504 : (.methodLink RL 82 yX12_noise : Cond) ∈ lw_tbl := t10_in (List.mem_of_getElem? (i := 36) rfl)
set_option maxRecDepth 20000 in
theorem tw_505 : (.instanceMethod yX12_noise : Cond) ∈ lw_tbl := t10_in (List.mem_of_getElem? (i := 37) rfl)
set_option maxRecDepth 20000 in
theorem tw_506 : (.selects RX12 yX12_noise yX12_noise : Cond) ∈ lw_tbl := t10_in (List.mem_of_getElem? (i := 38) rfl)
set_option maxRecDepth 20000 in
theorem tw_507 : (.code yX12_noise cX12_noise 3 (some .boolean) : Cond) ∈ lw_tbl := t10_in (List.mem_of_getElem? (i := 39) rfl)
set_option maxRecDepth 20000 in
theorem tw_508 : (.methodLink RL 83 yX11_lose : Cond) ∈ lw_tbl := t3_in (List.mem_of_getElem? (i := 180) rfl)
set_option maxRecDepth 20000 in
theorem tw_509 : (.instanceMethod yX11_lose : Cond) ∈ lw_tbl := t3_in (List.mem_of_getElem? (i := 181) rfl)
set_option maxRecDepth 20000 in
theorem tw_510 : (.selects RX11 yX11_lose yX11_lose : Cond) ∈ lw_tbl := t3_in (List.mem_of_getElem? (i := 182) rfl)
set_option maxRecDepth 20000 in
theorem tw_511 : (.code yX11_lose cX11_lose 3 (some .boolean) : Cond) ∈ lw_tbl := t3_in (List.mem_of_getElem? (i := 183) rfl)
set_option maxRecDepth 20000 in
theorem tw_512 : (.methodLink RX11 107 yX0_loseNext : Cond) ∈ lw_tbl := t3_in (List.mem_of_getElem? (i := 184) rfl)
set_option maxRecDepth 20000 in
theorem tw_513 : (.instanceMethod yX0_loseNext : Cond) ∈ lw_tbl := t3_in (List.mem_of_getElem? (i := 185) rfl)
set_option maxRecDepth 20000 in
theorem tw_514 : (.selects RX0 yX0_loseNext yX0_loseNext : Cond) ∈ lw_tbl := t3_in (List.mem_of_getElem? (i := 186) rfl)
set_option maxRecDepth 20000 in
theorem tw_515 : (.code yX0_loseNext cX0_loseNext 3 (some .boolean) : Cond) ∈ lw_tbl := t3_in (List.mem_of_getElem? (i := 187) rfl)
set_option maxRecDepth 20000 in
theorem tw_516 : (.methodLink RL 86 yX12_lose : Cond) ∈ lw_tbl := t10_in (List.mem_of_getElem? (i := 40) rfl)
set_option maxRecDepth 20000 in
theorem tw_517 : (.instanceMethod yX12_lose : Cond) ∈ lw_tbl := t10_in (List.mem_of_getElem? (i := 41) rfl)
set_option maxRecDepth 20000 in
theorem tw_518 : (.selects RX12 yX12_lose yX12_lose : Cond) ∈ lw_tbl := t10_in (List.mem_of_getElem? (i := 42) rfl)
set_option maxRecDepth 20000 in
theorem tw_519 : (.code yX12_lose cX12_lose 3 (some .boolean) : Cond) ∈ lw_tbl := t10_in (List.mem_of_getElem? (i := 43) rfl)
set_option maxRecDepth 20000 in
theorem tw_520 : (.methodLink RL 87 yL_air : Cond) ∈ lw_tbl := t6_in (List.mem_of_getElem? (i := 213) rfl)
set_option maxRecDepth 20000 in
theorem tw_521 : (.static yL_air : Cond) ∈ lw_tbl := t6_in (List.mem_of_getElem? (i := 214) rfl)
set_option maxRecDepth 20000 in
theorem tw_522 : (.codeWith yL_air cL_air 5 (some .int) [(0, 10, 13, 19)] : Cond) ∈ lw_tbl := t6_in (List.mem_of_getElem? (i := 215) rfl)
set_option maxRecDepth 20000 in
theorem tw_523 : (.methodLink RL 15 yX11_air : Cond) ∈ lw_tbl := t6_in (List.mem_of_getElem? (i := 217) rfl)
set_option maxRecDepth 20000 in
theorem tw_524 : (.instanceMethod yX11_air : Cond) ∈ lw_tbl := t6_in (List.mem_of_getElem? (i := 218) rfl)
set_option maxRecDepth 20000 in
theorem tw_525 : (.selects RX11 yX11_air yX11_air : Cond) ∈ lw_tbl := t6_in (List.mem_of_getElem? (i := 219) rfl)
set_option maxRecDepth 20000 in
theorem tw_526 : (.code yX11_air cX11_air 4 (some .int) : Cond) ∈ lw_tbl := t6_in (List.mem_of_getElem? (i := 220) rfl)
set_option maxRecDepth 20000 in
theorem tw_527 : (.methodLink RX11 278 yX0_figure : Cond) ∈ lw_tbl := t6_in (List.mem_of_getElem? (i := 221) rfl)
set_option maxRecDepth 20000 in
theorem tw_528 : (.instanceMethod yX0_figure : Cond) ∈ lw_tbl := t6_in (List.mem_of_getElem? (i := 222) rfl)
set_option maxRecDepth 20000 in
theorem tw_529 : (.selects RX0 yX0_figure yX0_figure : Cond) ∈ lw_tbl := t6_in (List.mem_of_getElem? (i := 223) rfl)
set_option maxRecDepth 20000 in
theorem tw_530 : (.code yX0_figure cX0_figure 3 (some .int) : Cond) ∈ lw_tbl := t6_in (List.mem_of_getElem? (i := 224) rfl)
set_option maxRecDepth 20000 in
theorem tw_531 : (.classLink RX11 282 tNS : Cond) ∈ lw_tbl := t6_in (List.mem_of_getElem? (i := 225) rfl)
set_option maxRecDepth 20000 in
theorem tw_532 : (.initialized tNS : Cond) ∈ lw_tbl := t1_in (List.mem_of_getElem? (i := 20) rfl)
set_option maxRecDepth 20000 in
theorem tw_533 : (.classLink RL 19 tNS : Cond) ∈ lw_tbl := t6_in (List.mem_of_getElem? (i := 216) rfl)
set_option maxRecDepth 20000 in
theorem tw_534 : (.methodLink RL 90 yX12_air : Cond) ∈ lw_tbl := t10_in (List.mem_of_getElem? (i := 44) rfl)
set_option maxRecDepth 20000 in
theorem tw_535 : (.instanceMethod yX12_air : Cond) ∈ lw_tbl := t10_in (List.mem_of_getElem? (i := 45) rfl)
set_option maxRecDepth 20000 in
theorem tw_536 : (.selects RX12 yX12_air yX12_air : Cond) ∈ lw_tbl := t10_in (List.mem_of_getElem? (i := 46) rfl)
set_option maxRecDepth 20000 in
theorem tw_537 : (.code yX12_air cX12_air 3 (some .int) : Cond) ∈ lw_tbl := t10_in (List.mem_of_getElem? (i := 47) rfl)
set_option maxRecDepth 20000 in
theorem tw_538 : (.methodLink RL 91 yX11_device : Cond) ∈ lw_tbl := t4_in (List.mem_of_getElem? (i := 150) rfl)
set_option maxRecDepth 20000 in
theorem tw_539 : (.instanceMethod yX11_device : Cond) ∈ lw_tbl := t4_in (List.mem_of_getElem? (i := 151) rfl)
set_option maxRecDepth 20000 in
theorem tw_540 : (.selects RX11 yX11_device yX11_device : Cond) ∈ lw_tbl := t4_in (List.mem_of_getElem? (i := 152) rfl)
set_option maxRecDepth 20000 in
theorem tw_541 : (.code yX11_device cX11_device 4 (some .int) : Cond) ∈ lw_tbl := t4_in (List.mem_of_getElem? (i := 153) rfl)
set_option maxRecDepth 20000 in
theorem tw_542 : (.methodLink RX11 321 yX11_linkFigure : Cond) ∈ lw_tbl := t4_in (List.mem_of_getElem? (i := 154) rfl)
set_option maxRecDepth 20000 in
theorem tw_543 : (.instanceMethod yX11_linkFigure : Cond) ∈ lw_tbl := t4_in (List.mem_of_getElem? (i := 156) rfl)
set_option maxRecDepth 20000 in
theorem tw_544 : (.selects RX11 yX11_linkFigure yX11_linkFigure : Cond) ∈ lw_tbl := sel1_in (List.mem_of_getElem? (i := 6) rfl)
set_option maxRecDepth 20000 in
theorem tw_545 : (.code yX11_linkFigure cX11_linkFigure 4 (some .int) : Cond) ∈ lw_tbl := t4_in (List.mem_of_getElem? (i := 157) rfl)
set_option maxRecDepth 20000 in
theorem tw_546 : (.methodLink RX11 325 yX11_talkFigure : Cond) ∈ lw_tbl := t4_in (List.mem_of_getElem? (i := 158) rfl)
set_option maxRecDepth 20000 in
theorem tw_547 : (.static yX11_talkFigure : Cond) ∈ lw_tbl := t4_in (List.mem_of_getElem? (i := 159) rfl)
set_option maxRecDepth 20000 in
theorem tw_548 : (.code yX11_talkFigure cX11_talkFigure 2 (some .int) : Cond) ∈ lw_tbl := t4_in (List.mem_of_getElem? (i := 160) rfl)
set_option maxRecDepth 20000 in
theorem tw_549 : (.methodLink RX11 341 yX11_flag : Cond) ∈ lw_tbl := t4_in (List.mem_of_getElem? (i := 161) rfl)
set_option maxRecDepth 20000 in
theorem tw_550 : (.static yX11_flag : Cond) ∈ lw_tbl := t4_in (List.mem_of_getElem? (i := 162) rfl)
set_option maxRecDepth 20000 in
theorem tw_551 : (.code yX11_flag cX11_flag 1 (some .int) : Cond) ∈ lw_tbl := t4_in (List.mem_of_getElem? (i := 163) rfl)
set_option maxRecDepth 20000 in
theorem tw_552 : (.methodLink RX11 338 yX0_lossesOf : Cond) ∈ lw_tbl := t4_in (List.mem_of_getElem? (i := 164) rfl)
set_option maxRecDepth 20000 in
theorem tw_553 : (.instanceMethod yX0_lossesOf : Cond) ∈ lw_tbl := t4_in (List.mem_of_getElem? (i := 165) rfl)
set_option maxRecDepth 20000 in
theorem tw_554 : (.selects RX0 yX0_lossesOf yX0_lossesOf : Cond) ∈ lw_tbl := t4_in (List.mem_of_getElem? (i := 166) rfl)
set_option maxRecDepth 20000 in
theorem tw_555 : (.code yX0_lossesOf cX0_lossesOf 2 (some .int) : Cond) ∈ lw_tbl := t4_in (List.mem_of_getElem? (i := 167) rfl)
set_option maxRecDepth 20000 in
theorem tw_556 : (.methodLink RL 94 yX12_device : Cond) ∈ lw_tbl := t10_in (List.mem_of_getElem? (i := 48) rfl)
set_option maxRecDepth 20000 in
theorem tw_557 : (.instanceMethod yX12_device : Cond) ∈ lw_tbl := t10_in (List.mem_of_getElem? (i := 49) rfl)
set_option maxRecDepth 20000 in
theorem tw_558 : (.selects RX12 yX12_device yX12_device : Cond) ∈ lw_tbl := t10_in (List.mem_of_getElem? (i := 50) rfl)
set_option maxRecDepth 20000 in
theorem tw_559 : (.code yX12_device cX12_device 5 (some .int) : Cond) ∈ lw_tbl := t10_in (List.mem_of_getElem? (i := 51) rfl)
set_option maxRecDepth 20000 in
theorem tw_560 : (.methodLink RL 95 yX11_number : Cond) ∈ lw_tbl := t4_in (List.mem_of_getElem? (i := 137) rfl)
set_option maxRecDepth 20000 in
theorem tw_561 : (.instanceMethod yX11_number : Cond) ∈ lw_tbl := t4_in (List.mem_of_getElem? (i := 138) rfl)
set_option maxRecDepth 20000 in
theorem tw_562 : (.selects RX11 yX11_number yX11_number : Cond) ∈ lw_tbl := t4_in (List.mem_of_getElem? (i := 139) rfl)
set_option maxRecDepth 20000 in
theorem tw_563 : (.code yX11_number cX11_number 4 (some .long) : Cond) ∈ lw_tbl := t4_in (List.mem_of_getElem? (i := 140) rfl)
set_option maxRecDepth 20000 in
theorem tw_564 : (.constantLong RX11 297 (-1) : Cond) ∈ lw_tbl := t4_in (List.mem_of_getElem? (i := 141) rfl)
set_option maxRecDepth 20000 in
theorem tw_565 : (.methodLink RL 99 yX12_number__ : Cond) ∈ lw_tbl := t10_in (List.mem_of_getElem? (i := 52) rfl)
set_option maxRecDepth 20000 in
theorem tw_566 : (.instanceMethod yX12_number__ : Cond) ∈ lw_tbl := t10_in (List.mem_of_getElem? (i := 53) rfl)
set_option maxRecDepth 20000 in
theorem tw_567 : (.selects RX12 yX12_number__ yX12_number__ : Cond) ∈ lw_tbl := t10_in (List.mem_of_getElem? (i := 54) rfl)
set_option maxRecDepth 20000 in
theorem tw_568 : (.code yX12_number__ cX12_number__ 3 (some .long) : Cond) ∈ lw_tbl := t10_in (List.mem_of_getElem? (i := 55) rfl)
set_option maxRecDepth 20000 in
theorem tw_569 : (.constantLong RX12 681 (-1) : Cond) ∈ lw_tbl := t10_in (List.mem_of_getElem? (i := 56) rfl)
set_option maxRecDepth 20000 in
theorem tw_570 : (.methodLink RL 100 yX11_byteOf : Cond) ∈ lw_tbl := t4_in (List.mem_of_getElem? (i := 142) rfl)
set_option maxRecDepth 20000 in
theorem tw_571 : (.instanceMethod yX11_byteOf : Cond) ∈ lw_tbl := t4_in (List.mem_of_getElem? (i := 143) rfl)
set_option maxRecDepth 20000 in
theorem tw_572 : (.selects RX11 yX11_byteOf yX11_byteOf : Cond) ∈ lw_tbl := t4_in (List.mem_of_getElem? (i := 144) rfl)
set_option maxRecDepth 20000 in
theorem tw_573 : (.code yX11_byteOf cX11_byteOf 5 (some .int) : Cond) ∈ lw_tbl := t4_in (List.mem_of_getElem? (i := 145) rfl)
set_option maxRecDepth 20000 in
theorem tw_574 : (.methodLink RX11 291 yX9_at : Cond) ∈ lw_tbl := t4_in (List.mem_of_getElem? (i := 146) rfl)
set_option maxRecDepth 20000 in
theorem tw_575 : (.instanceMethod yX9_at : Cond) ∈ lw_tbl := t4_in (List.mem_of_getElem? (i := 57) rfl)
set_option maxRecDepth 20000 in
theorem tw_576 : (.selects RX9 yX9_at yX9_at : Cond) ∈ lw_tbl := t4_in (List.mem_of_getElem? (i := 58) rfl)
set_option maxRecDepth 20000 in
theorem tw_577 : (.code yX9_at cX9_at 2 (some .int) : Cond) ∈ lw_tbl := t4_in (List.mem_of_getElem? (i := 59) rfl)
set_option maxRecDepth 20000 in
theorem tw_578 : (.methodLink RL 103 yX12_byteOf : Cond) ∈ lw_tbl := t10_in (List.mem_of_getElem? (i := 57) rfl)
set_option maxRecDepth 20000 in
theorem tw_579 : (.instanceMethod yX12_byteOf : Cond) ∈ lw_tbl := t10_in (List.mem_of_getElem? (i := 58) rfl)
set_option maxRecDepth 20000 in
theorem tw_580 : (.selects RX12 yX12_byteOf yX12_byteOf : Cond) ∈ lw_tbl := t10_in (List.mem_of_getElem? (i := 59) rfl)
set_option maxRecDepth 20000 in
theorem tw_581 : (.code yX12_byteOf cX12_byteOf 4 (some .int) : Cond) ∈ lw_tbl := t10_in (List.mem_of_getElem? (i := 60) rfl)
set_option maxRecDepth 20000 in
theorem tw_582 : (.methodLink RL 104 yX11_control : Cond) ∈ lw_tbl := t3_in (List.mem_of_getElem? (i := 219) rfl)
set_option maxRecDepth 20000 in
theorem tw_583 : (.instanceMethod yX11_control : Cond) ∈ lw_tbl := t3_in (List.mem_of_getElem? (i := 220) rfl)
set_option maxRecDepth 20000 in
theorem tw_584 : (.selects RX11 yX11_control yX11_control : Cond) ∈ lw_tbl := t3_in (List.mem_of_getElem? (i := 221) rfl)
set_option maxRecDepth 20000 in
theorem tw_585 : (.code yX11_control cX11_control 4 (some .boolean) : Cond) ∈ lw_tbl := t3_in (List.mem_of_getElem? (i := 222) rfl)
set_option maxRecDepth 20000 in
theorem tw_586 : (.methodLink RL 107 yX12_control : Cond) ∈ lw_tbl := t10_in (List.mem_of_getElem? (i := 61) rfl)
set_option maxRecDepth 20000 in
theorem tw_587 : (.instanceMethod yX12_control : Cond) ∈ lw_tbl := t10_in (List.mem_of_getElem? (i := 62) rfl)
set_option maxRecDepth 20000 in
theorem tw_588 : (.selects RX12 yX12_control yX12_control : Cond) ∈ lw_tbl := t10_in (List.mem_of_getElem? (i := 63) rfl)
set_option maxRecDepth 20000 in
theorem tw_589 : (.code yX12_control cX12_control 3 (some .boolean) : Cond) ∈ lw_tbl := t10_in (List.mem_of_getElem? (i := 64) rfl)
set_option maxRecDepth 20000 in
theorem tw_590 : (.methodLink RX12 683 yX12_mayControl : Cond) ∈ lw_tbl := t10_in (List.mem_of_getElem? (i := 65) rfl)
set_option maxRecDepth 20000 in
theorem tw_591 : (.instanceMethod yX12_mayControl : Cond) ∈ lw_tbl := t10_in (List.mem_of_getElem? (i := 67) rfl)
set_option maxRecDepth 20000 in
theorem tw_592 : (.selects RX12 yX12_mayControl yX12_mayControl : Cond) ∈ lw_tbl := sel8_in (List.mem_of_getElem? (i := 2) rfl)
set_option maxRecDepth 20000 in
theorem tw_593 : (.code yX12_mayControl cX12_mayControl 2 (some .boolean) : Cond) ∈ lw_tbl := t10_in (List.mem_of_getElem? (i := 68) rfl)
set_option maxRecDepth 20000 in
theorem tw_594 : (.methodLink RL 108 yX11_map : Cond) ∈ lw_tbl := t4_in (List.mem_of_getElem? (i := 9) rfl)
set_option maxRecDepth 20000 in
theorem tw_595 : (.instanceMethod yX11_map : Cond) ∈ lw_tbl := t4_in (List.mem_of_getElem? (i := 10) rfl)
set_option maxRecDepth 20000 in
theorem tw_596 : (.selects RX11 yX11_map yX11_map : Cond) ∈ lw_tbl := t4_in (List.mem_of_getElem? (i := 11) rfl)
set_option maxRecDepth 20000 in
theorem tw_597 : (.code yX11_map cX11_map 6 (some .boolean) : Cond) ∈ lw_tbl := t4_in (List.mem_of_getElem? (i := 12) rfl)
set_option maxRecDepth 20000 in
theorem tw_598 : (.methodLink RL 112 yX12_map : Cond) ∈ lw_tbl := t10_in (List.mem_of_getElem? (i := 69) rfl)
set_option maxRecDepth 20000 in
theorem tw_599 : (.instanceMethod yX12_map : Cond) ∈ lw_tbl := t10_in (List.mem_of_getElem? (i := 70) rfl)
set_option maxRecDepth 20000 in
theorem tw_600 : (.selects RX12 yX12_map yX12_map : Cond) ∈ lw_tbl := t10_in (List.mem_of_getElem? (i := 71) rfl)
set_option maxRecDepth 20000 in
theorem tw_601 : (.code yX12_map cX12_map 4 (some .boolean) : Cond) ∈ lw_tbl := t10_in (List.mem_of_getElem? (i := 72) rfl)
set_option maxRecDepth 20000 in
theorem tw_602 : (.methodLink RL 113 yX11_encrypt : Cond) ∈ lw_tbl := t4_in (List.mem_of_getElem? (i := 18) rfl)
set_option maxRecDepth 20000 in
theorem tw_603 : (.instanceMethod yX11_encrypt : Cond) ∈ lw_tbl := t4_in (List.mem_of_getElem? (i := 19) rfl)
set_option maxRecDepth 20000 in
theorem tw_604 : (.selects RX11 yX11_encrypt yX11_encrypt : Cond) ∈ lw_tbl := t4_in (List.mem_of_getElem? (i := 20) rfl)
set_option maxRecDepth 20000 in
theorem tw_605 : (.code yX11_encrypt cX11_encrypt 3 (some .boolean) : Cond) ∈ lw_tbl := t4_in (List.mem_of_getElem? (i := 21) rfl)
set_option maxRecDepth 20000 in
theorem tw_606 : (.methodLink RL 116 yX12_encrypt : Cond) ∈ lw_tbl := t10_in (List.mem_of_getElem? (i := 73) rfl)
set_option maxRecDepth 20000 in
theorem tw_607 : (.instanceMethod yX12_encrypt : Cond) ∈ lw_tbl := t10_in (List.mem_of_getElem? (i := 74) rfl)
set_option maxRecDepth 20000 in
theorem tw_608 : (.selects RX12 yX12_encrypt yX12_encrypt : Cond) ∈ lw_tbl := t10_in (List.mem_of_getElem? (i := 75) rfl)
set_option maxRecDepth 20000 in
theorem tw_609 : (.code yX12_encrypt cX12_encrypt 2 (some .boolean) : Cond) ∈ lw_tbl := t10_in (List.mem_of_getElem? (i := 76) rfl)
set_option maxRecDepth 20000 in
theorem tw_610 : (.methodLink RL 117 yX11_pair : Cond) ∈ lw_tbl := t4_in (List.mem_of_getElem? (i := 36) rfl)
set_option maxRecDepth 20000 in
theorem tw_611 : (.instanceMethod yX11_pair : Cond) ∈ lw_tbl := t4_in (List.mem_of_getElem? (i := 37) rfl)
set_option maxRecDepth 20000 in
theorem tw_612 : (.selects RX11 yX11_pair yX11_pair : Cond) ∈ lw_tbl := t4_in (List.mem_of_getElem? (i := 38) rfl)
set_option maxRecDepth 20000 in
theorem tw_613 : (.code yX11_pair cX11_pair 4 (some .boolean) : Cond) ∈ lw_tbl := t4_in (List.mem_of_getElem? (i := 39) rfl)
set_option maxRecDepth 20000 in
theorem tw_614 : (.methodLink RL 120 yX12_pair : Cond) ∈ lw_tbl := t10_in (List.mem_of_getElem? (i := 77) rfl)
set_option maxRecDepth 20000 in
theorem tw_615 : (.instanceMethod yX12_pair : Cond) ∈ lw_tbl := t10_in (List.mem_of_getElem? (i := 78) rfl)
set_option maxRecDepth 20000 in
theorem tw_616 : (.selects RX12 yX12_pair yX12_pair : Cond) ∈ lw_tbl := t10_in (List.mem_of_getElem? (i := 79) rfl)
set_option maxRecDepth 20000 in
theorem tw_617 : (.code yX12_pair cX12_pair 3 (some .boolean) : Cond) ∈ lw_tbl := t10_in (List.mem_of_getElem? (i := 80) rfl)
set_option maxRecDepth 20000 in
theorem tw_618 : (.methodLink RL 121 yX11_allow : Cond) ∈ lw_tbl := t3_in (List.mem_of_getElem? (i := 188) rfl)
set_option maxRecDepth 20000 in
theorem tw_619 : (.instanceMethod yX11_allow : Cond) ∈ lw_tbl := t3_in (List.mem_of_getElem? (i := 189) rfl)
set_option maxRecDepth 20000 in
theorem tw_620 : (.selects RX11 yX11_allow yX11_allow : Cond) ∈ lw_tbl := t3_in (List.mem_of_getElem? (i := 190) rfl)
set_option maxRecDepth 20000 in
theorem tw_621 : (.code yX11_allow cX11_allow 4 (some .boolean) : Cond) ∈ lw_tbl := t3_in (List.mem_of_getElem? (i := 191) rfl)
set_option maxRecDepth 20000 in
theorem tw_622 : (.constant RX11 110 (999999) : Cond) ∈ lw_tbl := t3_in (List.mem_of_getElem? (i := 192) rfl)
set_option maxRecDepth 20000 in
theorem tw_623 : (.methodLink RL 124 yX12_allow : Cond) ∈ lw_tbl := t10_in (List.mem_of_getElem? (i := 82) rfl)
set_option maxRecDepth 20000 in
theorem tw_624 : (.instanceMethod yX12_allow : Cond) ∈ lw_tbl := t10_in (List.mem_of_getElem? (i := 83) rfl)
set_option maxRecDepth 20000 in
theorem tw_625 : (.selects RX12 yX12_allow yX12_allow : Cond) ∈ lw_tbl := t10_in (List.mem_of_getElem? (i := 84) rfl)
set_option maxRecDepth 20000 in
theorem tw_626 : (.code yX12_allow cX12_allow 3 (some .boolean) : Cond) ∈ lw_tbl := t10_in (List.mem_of_getElem? (i := 85) rfl)
set_option maxRecDepth 20000 in
theorem tw_627 : (.constant RX12 686 (1000000) : Cond) ∈ lw_tbl := t10_in (List.mem_of_getElem? (i := 81) rfl)
set_option maxRecDepth 20000 in
theorem tw_628 : (.methodLink RL 125 yX11_features : Cond) ∈ lw_tbl := t3_in (List.mem_of_getElem? (i := 193) rfl)
set_option maxRecDepth 20000 in
theorem tw_629 : (.instanceMethod yX11_features : Cond) ∈ lw_tbl := t3_in (List.mem_of_getElem? (i := 194) rfl)
set_option maxRecDepth 20000 in
theorem tw_630 : (.selects RX11 yX11_features yX11_features : Cond) ∈ lw_tbl := t3_in (List.mem_of_getElem? (i := 195) rfl)
set_option maxRecDepth 20000 in
theorem tw_631 : (.code yX11_features cX11_features 5 (some .boolean) : Cond) ∈ lw_tbl := t3_in (List.mem_of_getElem? (i := 196) rfl)
set_option maxRecDepth 20000 in
theorem tw_632 : (.methodLink RL 128 yX12_features : Cond) ∈ lw_tbl := t10_in (List.mem_of_getElem? (i := 86) rfl)
set_option maxRecDepth 20000 in
theorem tw_633 : (.instanceMethod yX12_features : Cond) ∈ lw_tbl := t10_in (List.mem_of_getElem? (i := 87) rfl)
set_option maxRecDepth 20000 in
theorem tw_634 : (.selects RX12 yX12_features yX12_features : Cond) ∈ lw_tbl := t10_in (List.mem_of_getElem? (i := 88) rfl)
set_option maxRecDepth 20000 in
theorem tw_635 : (.code yX12_features cX12_features 4 (some .boolean) : Cond) ∈ lw_tbl := t10_in (List.mem_of_getElem? (i := 89) rfl)
set_option maxRecDepth 20000 in
theorem tw_636 : (.methodLink RL 129 yX11_attribute : Cond) ∈ lw_tbl := t3_in (List.mem_of_getElem? (i := 197) rfl)
set_option maxRecDepth 20000 in
theorem tw_637 : (.instanceMethod yX11_attribute : Cond) ∈ lw_tbl := t3_in (List.mem_of_getElem? (i := 198) rfl)
set_option maxRecDepth 20000 in
theorem tw_638 : (.selects RX11 yX11_attribute yX11_attribute : Cond) ∈ lw_tbl := t3_in (List.mem_of_getElem? (i := 199) rfl)
set_option maxRecDepth 20000 in
theorem tw_639 : (.code yX11_attribute cX11_attribute 6 (some .int) : Cond) ∈ lw_tbl := t3_in (List.mem_of_getElem? (i := 200) rfl)
set_option maxRecDepth 20000 in
theorem tw_640 : (.constant RX11 123 (65535) : Cond) ∈ lw_tbl := t3_in (List.mem_of_getElem? (i := 201) rfl)
set_option maxRecDepth 20000 in
theorem tw_641 : (.methodLink RX11 128 yX10_addAttribute : Cond) ∈ lw_tbl := t3_in (List.mem_of_getElem? (i := 202) rfl)
set_option maxRecDepth 20000 in
theorem tw_642 : (.instanceMethod yX10_addAttribute : Cond) ∈ lw_tbl := t3_in (List.mem_of_getElem? (i := 203) rfl)
set_option maxRecDepth 20000 in
theorem tw_643 : (.selects RX10 yX10_addAttribute yX10_addAttribute : Cond) ∈ lw_tbl := t3_in (List.mem_of_getElem? (i := 204) rfl)
set_option maxRecDepth 20000 in
theorem tw_644 : (.code yX10_addAttribute cX10_addAttribute 4 (some .int) : Cond) ∈ lw_tbl := t3_in (List.mem_of_getElem? (i := 205) rfl)
set_option maxRecDepth 20000 in
theorem tw_645 : (.fieldLink RX10 56 "LowEnergy$Server" "count" "I" : Cond) ∈ lw_tbl := t2_in (List.mem_of_getElem? (i := 47) rfl)
set_option maxRecDepth 20000 in
theorem tw_646 : (.methodLink RX10 59 yX9_become : Cond) ∈ lw_tbl := t3_in (List.mem_of_getElem? (i := 206) rfl)
set_option maxRecDepth 20000 in
theorem tw_647 : (.methodLink RL 132 yX12_attribute : Cond) ∈ lw_tbl := t10_in (List.mem_of_getElem? (i := 90) rfl)
set_option maxRecDepth 20000 in
theorem tw_648 : (.instanceMethod yX12_attribute : Cond) ∈ lw_tbl := t10_in (List.mem_of_getElem? (i := 91) rfl)
set_option maxRecDepth 20000 in
theorem tw_649 : (.selects RX12 yX12_attribute yX12_attribute : Cond) ∈ lw_tbl := t10_in (List.mem_of_getElem? (i := 92) rfl)
set_option maxRecDepth 20000 in
theorem tw_650 : (.code yX12_attribute cX12_attribute 5 (some .int) : Cond) ∈ lw_tbl := t10_in (List.mem_of_getElem? (i := 93) rfl)
set_option maxRecDepth 20000 in
theorem tw_651 : (.constant RX12 687 (65536) : Cond) ∈ lw_tbl := t10_in (List.mem_of_getElem? (i := 94) rfl)
set_option maxRecDepth 20000 in
theorem tw_652 : (.methodLink RX12 547 yX12_row : Cond) ∈ lw_tbl := t9_in (List.mem_of_getElem? (i := 200) rfl)
set_option maxRecDepth 20000 in
theorem tw_653 : (.instanceMethod yX12_row : Cond) ∈ lw_tbl := t9_in (List.mem_of_getElem? (i := 202) rfl)
set_option maxRecDepth 20000 in
theorem tw_654 : (.selects RX12 yX12_row yX12_row : Cond) ∈ lw_tbl := sel7_in (List.mem_of_getElem? (i := 4) rfl)
set_option maxRecDepth 20000 in
theorem tw_655 : (.code yX12_row cX12_row 3 (some .int) : Cond) ∈ lw_tbl := t9_in (List.mem_of_getElem? (i := 203) rfl)
set_option maxRecDepth 20000 in
theorem tw_656 : (.methodLink RX12 688 yX12_becomes : Cond) ∈ lw_tbl := t10_in (List.mem_of_getElem? (i := 95) rfl)
set_option maxRecDepth 20000 in
theorem tw_657 : (.instanceMethod yX12_becomes : Cond) ∈ lw_tbl := t10_in (List.mem_of_getElem? (i := 97) rfl)
set_option maxRecDepth 20000 in
theorem tw_658 : (.selects RX12 yX12_becomes yX12_becomes : Cond) ∈ lw_tbl := sel8_in (List.mem_of_getElem? (i := 3) rfl)
set_option maxRecDepth 20000 in
theorem tw_659 : (.code yX12_becomes cX12_becomes 3 none : Cond) ∈ lw_tbl := t10_in (List.mem_of_getElem? (i := 98) rfl)
set_option maxRecDepth 20000 in
theorem tw_660 : (.methodLink RL 133 yX11_set : Cond) ∈ lw_tbl := t3_in (List.mem_of_getElem? (i := 207) rfl)
set_option maxRecDepth 20000 in
theorem tw_661 : (.instanceMethod yX11_set : Cond) ∈ lw_tbl := t3_in (List.mem_of_getElem? (i := 208) rfl)
set_option maxRecDepth 20000 in
theorem tw_662 : (.selects RX11 yX11_set yX11_set : Cond) ∈ lw_tbl := t3_in (List.mem_of_getElem? (i := 209) rfl)
set_option maxRecDepth 20000 in
theorem tw_663 : (.code yX11_set cX11_set 5 (some .boolean) : Cond) ∈ lw_tbl := t3_in (List.mem_of_getElem? (i := 210) rfl)
set_option maxRecDepth 20000 in
theorem tw_664 : (.methodLink RX11 134 yX10_valueOf : Cond) ∈ lw_tbl := t3_in (List.mem_of_getElem? (i := 211) rfl)
set_option maxRecDepth 20000 in
theorem tw_665 : (.instanceMethod yX10_valueOf : Cond) ∈ lw_tbl := t3_in (List.mem_of_getElem? (i := 212) rfl)
set_option maxRecDepth 20000 in
theorem tw_666 : (.selects RX10 yX10_valueOf yX10_valueOf : Cond) ∈ lw_tbl := t3_in (List.mem_of_getElem? (i := 213) rfl)
set_option maxRecDepth 20000 in
theorem tw_667 : (.code yX10_valueOf cX10_valueOf 2 (some (.object "LowEnergy$Row")) : Cond) ∈ lw_tbl := t3_in (List.mem_of_getElem? (i := 214) rfl)
set_option maxRecDepth 20000 in
theorem tw_668 : (.methodLink RL 136 yX12_set : Cond) ∈ lw_tbl := t10_in (List.mem_of_getElem? (i := 99) rfl)
set_option maxRecDepth 20000 in
theorem tw_669 : (.instanceMethod yX12_set : Cond) ∈ lw_tbl := t10_in (List.mem_of_getElem? (i := 100) rfl)
set_option maxRecDepth 20000 in
theorem tw_670 : (.selects RX12 yX12_set yX12_set : Cond) ∈ lw_tbl := t10_in (List.mem_of_getElem? (i := 101) rfl)
set_option maxRecDepth 20000 in
theorem tw_671 : (.code yX12_set cX12_set 3 (some .boolean) : Cond) ∈ lw_tbl := t10_in (List.mem_of_getElem? (i := 102) rfl)
set_option maxRecDepth 20000 in
theorem tw_672 : (.methodLink RX12 567 yX12_isHandle : Cond) ∈ lw_tbl := t9_in (List.mem_of_getElem? (i := 192) rfl)
set_option maxRecDepth 20000 in
theorem tw_673 : (.instanceMethod yX12_isHandle : Cond) ∈ lw_tbl := t9_in (List.mem_of_getElem? (i := 194) rfl)
set_option maxRecDepth 20000 in
theorem tw_674 : (.selects RX12 yX12_isHandle yX12_isHandle : Cond) ∈ lw_tbl := sel7_in (List.mem_of_getElem? (i := 2) rfl)
set_option maxRecDepth 20000 in
theorem tw_675 : (.code yX12_isHandle cX12_isHandle 3 (some .boolean) : Cond) ∈ lw_tbl := t9_in (List.mem_of_getElem? (i := 195) rfl)
set_option maxRecDepth 20000 in
theorem tw_676 : (.methodLink RL 137 yL_value : Cond) ∈ lw_tbl := t7_in (List.mem_of_getElem? (i := 1) rfl)
set_option maxRecDepth 20000 in
theorem tw_677 : (.static yL_value : Cond) ∈ lw_tbl := t7_in (List.mem_of_getElem? (i := 2) rfl)
set_option maxRecDepth 20000 in
theorem tw_678 : (.codeWith yL_value cL_value 6 (some .int) [(0, 12, 15, 19)] : Cond) ∈ lw_tbl := t7_in (List.mem_of_getElem? (i := 3) rfl)
set_option maxRecDepth 20000 in
theorem tw_679 : (.methodLink RL 21 yX11_value : Cond) ∈ lw_tbl := t7_in (List.mem_of_getElem? (i := 4) rfl)
set_option maxRecDepth 20000 in
theorem tw_680 : (.instanceMethod yX11_value : Cond) ∈ lw_tbl := t7_in (List.mem_of_getElem? (i := 5) rfl)
set_option maxRecDepth 20000 in
theorem tw_681 : (.selects RX11 yX11_value yX11_value : Cond) ∈ lw_tbl := t7_in (List.mem_of_getElem? (i := 6) rfl)
set_option maxRecDepth 20000 in
theorem tw_682 : (.code yX11_value cX11_value 6 (some .int) : Cond) ∈ lw_tbl := t7_in (List.mem_of_getElem? (i := 7) rfl)
set_option maxRecDepth 20000 in
theorem tw_683 : (.methodLink RL 140 yX12_value : Cond) ∈ lw_tbl := t10_in (List.mem_of_getElem? (i := 103) rfl)
set_option maxRecDepth 20000 in
theorem tw_684 : (.instanceMethod yX12_value : Cond) ∈ lw_tbl := t10_in (List.mem_of_getElem? (i := 104) rfl)
set_option maxRecDepth 20000 in
theorem tw_685 : (.selects RX12 yX12_value yX12_value : Cond) ∈ lw_tbl := t10_in (List.mem_of_getElem? (i := 105) rfl)
set_option maxRecDepth 20000 in
theorem tw_686 : (.code yX12_value cX12_value 5 (some .int) : Cond) ∈ lw_tbl := t10_in (List.mem_of_getElem? (i := 106) rfl)
set_option maxRecDepth 20000 in
theorem tw_687 : (.methodLink RL 141 yX11_mtu : Cond) ∈ lw_tbl := t3_in (List.mem_of_getElem? (i := 215) rfl)
set_option maxRecDepth 20000 in
theorem tw_688 : (.instanceMethod yX11_mtu : Cond) ∈ lw_tbl := t3_in (List.mem_of_getElem? (i := 216) rfl)
set_option maxRecDepth 20000 in
theorem tw_689 : (.selects RX11 yX11_mtu yX11_mtu : Cond) ∈ lw_tbl := t3_in (List.mem_of_getElem? (i := 217) rfl)
set_option maxRecDepth 20000 in
theorem tw_690 : (.code yX11_mtu cX11_mtu 4 (some .boolean) : Cond) ∈ lw_tbl := t3_in (List.mem_of_getElem? (i := 218) rfl)
set_option maxRecDepth 20000 in
theorem tw_691 : (.methodLink RL 144 yX12_mtu : Cond) ∈ lw_tbl := t10_in (List.mem_of_getElem? (i := 107) rfl)
set_option maxRecDepth 20000 in
theorem tw_692 : (.instanceMethod yX12_mtu : Cond) ∈ lw_tbl := t10_in (List.mem_of_getElem? (i := 108) rfl)
set_option maxRecDepth 20000 in
theorem tw_693 : (.selects RX12 yX12_mtu yX12_mtu : Cond) ∈ lw_tbl := t10_in (List.mem_of_getElem? (i := 109) rfl)
set_option maxRecDepth 20000 in
theorem tw_694 : (.code yX12_mtu cX12_mtu 3 (some .boolean) : Cond) ∈ lw_tbl := t10_in (List.mem_of_getElem? (i := 110) rfl)
set_option maxRecDepth 20000 in
theorem tw_695 : (.methodLink RL 145 yX11_job : Cond) ∈ lw_tbl := t4_in (List.mem_of_getElem? (i := 70) rfl)
set_option maxRecDepth 20000 in
theorem tw_696 : (.instanceMethod yX11_job : Cond) ∈ lw_tbl := t4_in (List.mem_of_getElem? (i := 71) rfl)
set_option maxRecDepth 20000 in
theorem tw_697 : (.selects RX11 yX11_job yX11_job : Cond) ∈ lw_tbl := t4_in (List.mem_of_getElem? (i := 72) rfl)
set_option maxRecDepth 20000 in
theorem tw_698 : (.code yX11_job cX11_job 7 (some .boolean) : Cond) ∈ lw_tbl := t4_in (List.mem_of_getElem? (i := 73) rfl)
set_option maxRecDepth 20000 in
theorem tw_699 : (.methodLink RL 149 yX12_job : Cond) ∈ lw_tbl := t10_in (List.mem_of_getElem? (i := 111) rfl)
set_option maxRecDepth 20000 in
theorem tw_700 : (.instanceMethod yX12_job : Cond) ∈ lw_tbl := t10_in (List.mem_of_getElem? (i := 112) rfl)
set_option maxRecDepth 20000 in
theorem tw_701 : (.selects RX12 yX12_job yX12_job : Cond) ∈ lw_tbl := t10_in (List.mem_of_getElem? (i := 113) rfl)
set_option maxRecDepth 20000 in
theorem tw_702 : (.code yX12_job cX12_job 6 (some .boolean) : Cond) ∈ lw_tbl := t10_in (List.mem_of_getElem? (i := 114) rfl)
set_option maxRecDepth 20000 in
theorem tw_703 : (.methodLink RL 150 yX11_send : Cond) ∈ lw_tbl := t4_in (List.mem_of_getElem? (i := 107) rfl)
set_option maxRecDepth 20000 in
theorem tw_704 : (.instanceMethod yX11_send : Cond) ∈ lw_tbl := t4_in (List.mem_of_getElem? (i := 108) rfl)
set_option maxRecDepth 20000 in
theorem tw_705 : (.selects RX11 yX11_send yX11_send : Cond) ∈ lw_tbl := t4_in (List.mem_of_getElem? (i := 109) rfl)
set_option maxRecDepth 20000 in
theorem tw_706 : (.code yX11_send cX11_send 7 (some .boolean) : Cond) ∈ lw_tbl := t4_in (List.mem_of_getElem? (i := 110) rfl)
set_option maxRecDepth 20000 in
theorem tw_707 : (.methodLink RL 154 yX12_send : Cond) ∈ lw_tbl := t10_in (List.mem_of_getElem? (i := 115) rfl)
set_option maxRecDepth 20000 in
theorem tw_708 : (.instanceMethod yX12_send : Cond) ∈ lw_tbl := t10_in (List.mem_of_getElem? (i := 116) rfl)
set_option maxRecDepth 20000 in
theorem tw_709 : (.selects RX12 yX12_send yX12_send : Cond) ∈ lw_tbl := t10_in (List.mem_of_getElem? (i := 117) rfl)
set_option maxRecDepth 20000 in
theorem tw_710 : (.code yX12_send cX12_send 6 (some .boolean) : Cond) ∈ lw_tbl := t10_in (List.mem_of_getElem? (i := 118) rfl)
set_option maxRecDepth 20000 in
theorem tw_711 : (.methodLink RL 155 yX11_completion : Cond) ∈ lw_tbl := t4_in (List.mem_of_getElem? (i := 128) rfl)
set_option maxRecDepth 20000 in
theorem tw_712 : (.instanceMethod yX11_completion : Cond) ∈ lw_tbl := t4_in (List.mem_of_getElem? (i := 129) rfl)
set_option maxRecDepth 20000 in
theorem tw_713 : (.selects RX11 yX11_completion yX11_completion : Cond) ∈ lw_tbl := t4_in (List.mem_of_getElem? (i := 130) rfl)
set_option maxRecDepth 20000 in
theorem tw_714 : (.code yX11_completion cX11_completion 4 (some .int) : Cond) ∈ lw_tbl := t4_in (List.mem_of_getElem? (i := 131) rfl)
set_option maxRecDepth 20000 in
theorem tw_715 : (.methodLink RX11 295 yX4_figure : Cond) ∈ lw_tbl := t4_in (List.mem_of_getElem? (i := 132) rfl)
set_option maxRecDepth 20000 in
theorem tw_716 : (.instanceMethod yX4_figure : Cond) ∈ lw_tbl := t4_in (List.mem_of_getElem? (i := 133) rfl)
set_option maxRecDepth 20000 in
theorem tw_717 : (.selects RX4 yX4_figure yX4_figure : Cond) ∈ lw_tbl := t4_in (List.mem_of_getElem? (i := 134) rfl)
set_option maxRecDepth 20000 in
theorem tw_718 : (.code yX4_figure cX4_figure 2 (some .int) : Cond) ∈ lw_tbl := t4_in (List.mem_of_getElem? (i := 135) rfl)
set_option maxRecDepth 20000 in
theorem tw_719 : (.fieldLink RX4 29 "LowEnergy$Diary" "count" "I" : Cond) ∈ lw_tbl := t2_in (List.mem_of_getElem? (i := 125) rfl)
set_option maxRecDepth 20000 in
theorem tw_720 : (.methodLink RL 158 yX12_completion : Cond) ∈ lw_tbl := t8_in (List.mem_of_getElem? (i := 173) rfl)
set_option maxRecDepth 20000 in
theorem tw_721 : (.instanceMethod yX12_completion : Cond) ∈ lw_tbl := t8_in (List.mem_of_getElem? (i := 174) rfl)
set_option maxRecDepth 20000 in
theorem tw_722 : (.selects RX12 yX12_completion yX12_completion : Cond) ∈ lw_tbl := t8_in (List.mem_of_getElem? (i := 175) rfl)
set_option maxRecDepth 20000 in
theorem tw_723 : (.code yX12_completion cX12_completion 4 (some .int) : Cond) ∈ lw_tbl := t8_in (List.mem_of_getElem? (i := 176) rfl)
set_option maxRecDepth 20000 in
theorem tw_724 : (.methodLink RL 159 yX11_take : Cond) ∈ lw_tbl := t4_in (List.mem_of_getElem? (i := 120) rfl)
set_option maxRecDepth 20000 in
theorem tw_725 : (.instanceMethod yX11_take : Cond) ∈ lw_tbl := t4_in (List.mem_of_getElem? (i := 121) rfl)
set_option maxRecDepth 20000 in
theorem tw_726 : (.selects RX11 yX11_take yX11_take : Cond) ∈ lw_tbl := t4_in (List.mem_of_getElem? (i := 122) rfl)
set_option maxRecDepth 20000 in
theorem tw_727 : (.code yX11_take cX11_take 3 (some .boolean) : Cond) ∈ lw_tbl := t4_in (List.mem_of_getElem? (i := 123) rfl)
set_option maxRecDepth 20000 in
theorem tw_728 : (.methodLink RX11 273 yX4_dropFirst : Cond) ∈ lw_tbl := t4_in (List.mem_of_getElem? (i := 124) rfl)
set_option maxRecDepth 20000 in
theorem tw_729 : (.instanceMethod yX4_dropFirst : Cond) ∈ lw_tbl := t4_in (List.mem_of_getElem? (i := 125) rfl)
set_option maxRecDepth 20000 in
theorem tw_730 : (.selects RX4 yX4_dropFirst yX4_dropFirst : Cond) ∈ lw_tbl := t4_in (List.mem_of_getElem? (i := 126) rfl)
set_option maxRecDepth 20000 in
theorem tw_731 : (.code yX4_dropFirst cX4_dropFirst 1 (some .boolean) : Cond) ∈ lw_tbl := t4_in (List.mem_of_getElem? (i := 127) rfl)
set_option maxRecDepth 20000 in
theorem tw_732 : (.methodLink RL 162 yX12_take : Cond) ∈ lw_tbl := t8_in (List.mem_of_getElem? (i := 180) rfl)
set_option maxRecDepth 20000 in
theorem tw_733 : (.instanceMethod yX12_take : Cond) ∈ lw_tbl := t8_in (List.mem_of_getElem? (i := 181) rfl)
set_option maxRecDepth 20000 in
theorem tw_734 : (.selects RX12 yX12_take yX12_take : Cond) ∈ lw_tbl := t8_in (List.mem_of_getElem? (i := 182) rfl)
set_option maxRecDepth 20000 in
theorem tw_735 : (.code yX12_take cX12_take 4 (some .boolean) : Cond) ∈ lw_tbl := t8_in (List.mem_of_getElem? (i := 183) rfl)
theorem fm_in {ws : List Cond} (ps : List Nat) (hp : ws = ps.filterMap (fun i => lw_tbl[i]?)) : ∀ w ∈ ws, w ∈ lw_tbl := by
  intro w hw
  rw [hp] at hw
  obtain ⟨i, -, hi⟩ := List.mem_filterMap.mp hw
  exact List.mem_of_getElem? hi
set_option maxRecDepth 100000 in
theorem in_X0 : ∀ x ∈ u_ws RX0 TX0 10, x ∈ lw_tbl := fm_in [196, 198, 200, 202, 204, 206, 208, 210, 212, 214] (by decide +kernel)
set_option maxRecDepth 100000 in
theorem in_X1 : ∀ x ∈ u_ws RX1 TX1 2, x ∈ lw_tbl := fm_in [227, 229] (by decide +kernel)
set_option maxRecDepth 100000 in
theorem in_X2 : ∀ x ∈ u_ws RX2 TX2 6, x ∈ lw_tbl := fm_in [455, 457, 459, 461, 463, 465] (by decide +kernel)
set_option maxRecDepth 100000 in
theorem in_X3 : ∀ x ∈ u_ws RX3 TX3 19, x ∈ lw_tbl := fm_in [641, 643, 645, 647, 649, 651, 653, 655, 657, 659, 661, 663, 665, 667, 669, 671, 673, 675, 677] (by decide +kernel)
set_option maxRecDepth 100000 in
theorem in_X4 : ∀ x ∈ u_ws RX4 TX4 6, x ∈ lw_tbl := fm_in [485, 487, 489, 491, 493, 495] (by decide +kernel)
set_option maxRecDepth 100000 in
theorem in_X5 : ∀ x ∈ u_ws RX5 TX5 16, x ∈ lw_tbl := fm_in [534, 536, 538, 540, 542, 544, 546, 548, 550, 552, 554, 556, 558, 560, 562, 564] (by decide +kernel)
set_option maxRecDepth 100000 in
theorem in_X6 : ∀ x ∈ u_ws RX6 TX6 20, x ∈ lw_tbl := fm_in [285, 287, 289, 291, 293, 295, 297, 299, 301, 303, 305, 307, 309, 311, 313, 315, 317, 319, 321, 323] (by decide +kernel)
set_option maxRecDepth 100000 in
theorem in_X7 : ∀ x ∈ u_ws RX7 TX7 16, x ∈ lw_tbl := fm_in [359, 361, 363, 365, 367, 369, 371, 373, 375, 377, 379, 381, 383, 385, 387, 389] (by decide +kernel)
set_option maxRecDepth 100000 in
theorem in_X8 : ∀ x ∈ u_ws RX8 TX8 8, x ∈ lw_tbl := fm_in [584, 586, 588, 590, 592, 594, 596, 598] (by decide +kernel)
set_option maxRecDepth 100000 in
theorem in_X9 : ∀ x ∈ u_ws RX9 TX9 2, x ∈ lw_tbl := fm_in [177, 179] (by decide +kernel)
set_option maxRecDepth 100000 in
theorem in_X10 : ∀ x ∈ u_ws RX10 TX10 10, x ∈ lw_tbl := fm_in [417, 419, 421, 423, 425, 427, 429, 431, 433, 435] (by decide +kernel)
set_option maxRecDepth 100000 in
theorem in_X11 : ∀ x ∈ u_ws RX11 TX11 5, x ∈ lw_tbl := fm_in [685, 687, 689, 691, 693] (by decide +kernel)
set_option maxRecDepth 100000 in
theorem in_X12 : ∀ x ∈ u_ws RX12 TX12 123, x ∈ lw_tbl := fm_in [1720, 1722, 1724, 1726, 1728, 1730, 1732, 1734, 1736, 1738, 1740, 1742, 1744, 1746, 1748, 1750, 1752, 1754, 1756, 1758, 1760, 1762, 1764, 1766, 1768, 1770, 1772, 1774, 1776, 1778, 1780, 1782, 1784, 1786, 1788, 1790, 1792, 1794, 1796, 1798, 1800, 1802, 1804, 1806, 1808, 1810, 1812, 1814, 1816, 1818, 1820, 1822, 1824, 1826, 1828, 1830, 1832, 1834, 1836, 1838, 1840, 1842, 1844, 1846, 1848, 1850, 1852, 1854, 1856, 1858, 1860, 1862, 1864, 1866, 1868, 1870, 1872, 1874, 1876, 1878, 1880, 1882, 1884, 1886, 1888, 1890, 1892, 1894, 1896, 1898, 1900, 1902, 1904, 1906, 1908, 1910, 1912, 1914, 1916, 1918, 1920, 1922, 1924, 1926, 1928, 1930, 1932, 1934, 1936, 1938, 1940, 1942, 1944, 1946, 1948, 1950, 1952, 1954, 1956, 1958, 1960, 1962, 1964] (by decide +kernel)
theorem in_E0 : ∀ x ∈ wsE00, x ∈ lw_tbl := by decide +kernel
theorem in_E1 : ∀ x ∈ wsE10, x ∈ lw_tbl := by decide +kernel
set_option maxRecDepth 100000 in
theorem in_nest : ∀ x ∈ nestL, x ∈ lw_tbl := fm_in [631, 575, 621, 633, 407, 626, 346, 260, 267, 262, 629, 508, 523, 521, 518, 516, 510, 514, 578, 640, 635, 448, 454, 410, 415, 638, 257, 618, 605, 620, 506, 512, 616, 404, 482, 484, 270, 276, 278, 251, 255, 253, 265, 272, 344, 350, 337, 335, 529, 531, 413, 168, 194, 602, 190, 192, 247, 249, 281, 525, 274, 527, 355, 357, 610, 608, 611, 612, 614, 623, 282, 173, 166, 406, 171, 409, 264, 343, 520, 175, 284, 246, 248, 339, 577, 447, 170, 176, 174, 628, 604, 624, 283, 606, 169, 637, 172, 221, 242, 440] (by decide +kernel)
