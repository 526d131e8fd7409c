theorem tsw_ok {offs : Array Int} {pc : Nat} (h : offs.toList.all (fun o => decide (0 ≤ (pc : Int) + o)) = true) : ∀ (i : Nat) (off : Int), offs[i]? = some off → 0 ≤ (pc : Int) + off := by
  intro i off ho
  have h1 : off ∈ offs.toList := by
    have := Array.mem_of_getElem? ho
    exact Array.mem_toList_iff.mpr this
  exact of_decide_eq_true (List.all_eq_true.mp h off h1)
def wp_Pairing_hear : List Cond := .code yX8_hear cX8_hear 5 none :: (([.methodLink RX8 55 yX9_at, .instanceMethod yX9_at, .selects RX9 yX9_at yX9_at, .initialized RX9, .code yX9_at cX9_at 2 (some .int), .fieldLink RX9 21 "LowEnergy$Row" "size" "I", .fieldLink RX9 15 "LowEnergy$Row" "bytes" "[I", .methodLink RX8 64 yX8_hearRequest, .instanceMethod yX8_hearRequest, .selects RX8 yX8_hearRequest yX8_hearRequest, .initialized RX8, .code yX8_hearRequest cX8_hearRequest 4 none, .fieldLink RX8 9 "LowEnergy$Pairing" "passkey" "I", .methodLink RX8 39 yX8_keepOffer, .instanceMethod yX8_keepOffer, .selects RX8 yX8_keepOffer yX8_keepOffer, .code yX8_keepOffer cX8_keepOffer 4 none, .fieldLink RX8 19 "LowEnergy$Pairing" "bothMessages" "[I", .methodLink RX8 43 yX8_useKey, .instanceMethod yX8_useKey, .selects RX8 yX8_useKey yX8_useKey, .code yX8_useKey cX8_useKey 3 none, .fieldLink RX8 15 "LowEnergy$Pairing" "temporaryKey" "[I", .methodLink RX8 35 yX8_putOffer, .static yX8_putOffer, .code yX8_putOffer cX8_putOffer 2 none, .methodLink RX8 96 yX9_put, .instanceMethod yX9_put, .selects RX9 yX9_put yX9_put, .code yX9_put cX9_put 2 none, .fieldLink RX8 47 "LowEnergy$Pairing" "step" "I", .methodLink RX8 88 yX8_fail, .instanceMethod yX8_fail, .selects RX8 yX8_fail yX8_fail, .code yX8_fail cX8_fail 4 none, .methodLink RX8 82 yX4_note, .instanceMethod yX4_note, .selects RX4 yX4_note yX4_note, .initialized RX4, .code yX4_note cX4_note 6 none, .fieldLink RX4 29 "LowEnergy$Diary" "count" "I", .fieldLink RX4 36 "LowEnergy$Diary" "head" "I", .fieldLink RX4 11 "LowEnergy$Diary" "kinds" "[I", .fieldLink RX4 17 "LowEnergy$Diary" "numbers" "[[I", .fieldLink RX4 22 "LowEnergy$Diary" "rows" "[LLowEnergy$Row;", .methodLink RX4 39 yX9_clear, .instanceMethod yX9_clear, .selects RX9 yX9_clear yX9_clear, .code yX9_clear cX9_clear 1 none, .fieldLink RX4 33 "LowEnergy$Diary" "lost" "I", .methodLink RX8 68 yX8_drawAndConfirm, .instanceMethod yX8_drawAndConfirm, .selects RX8 yX8_drawAndConfirm yX8_drawAndConfirm, .code yX8_drawAndConfirm cX8_drawAndConfirm 4 none, .methodLink RX8 103 yX8_confirm, .instanceMethod yX8_confirm, .selects RX8 yX8_confirm yX8_confirm, .code yX8_confirm cX8_confirm 8 none, .fieldLink RX8 31 "LowEnergy$Pairing" "cipher" "LLowEnergy$Cipher;", .fieldLink RX8 28 "LowEnergy$Pairing" "made" "[I", .methodLink RX8 107 yX1_encipher, .instanceMethod yX1_encipher, .selects RX1 yX1_encipher yX1_encipher, .initialized RX1, .code yX1_encipher cX1_encipher 7 none, .fieldLink RX1 9 "LowEnergy$Cipher" "roundKeys" "[I", .fieldLink RX1 13 "LowEnergy$Cipher" "moved" "[I", .fieldLink RX1 16 "LowEnergy$Cipher" "SBOX" "[I", .constantLong RX8 141 (255), .methodLink RX8 138 yX1_loadKey, .instanceMethod yX1_loadKey, .selects RX1 yX1_loadKey yX1_loadKey, .code yX1_loadKey cX1_loadKey 6 none, .methodLink RX8 99 yX9_putBytes, .instanceMethod yX9_putBytes, .selects RX9 yX9_putBytes yX9_putBytes, .code yX9_putBytes cX9_putBytes 3 none, .fieldLink RX8 22 "LowEnergy$Pairing" "random" "[I", .methodLink RX8 121 yX3_drawInto, .instanceMethod yX3_drawInto, .selects RX3 yX3_drawInto yX3_drawInto, .initialized RX3, .code yX3_drawInto cX3_drawInto 5 none, .methodLink RX3 89 yX3_draw, .instanceMethod yX3_draw, .selects RX3 yX3_draw yX3_draw, .code yX3_draw cX3_draw 1 (some .int), .fieldLink RX3 69 "LowEnergy$Device" "x" "I", .constant RX3 88 (1103515245), .methodLink RX8 72 yX8_hearConfirm, .instanceMethod yX8_hearConfirm, .selects RX8 yX8_hearConfirm yX8_hearConfirm, .code yX8_hearConfirm cX8_hearConfirm 4 none, .fieldLink RX8 25 "LowEnergy$Pairing" "kept" "[I", .methodLink RX8 92 yX9_copyTo, .instanceMethod yX9_copyTo, .selects RX9 yX9_copyTo yX9_copyTo, .code yX9_copyTo cX9_copyTo 5 none, .methodLink RX9 9 Lib.Math.max.name, .static Lib.Math.max.name, .initialized "java/lang/Math", .code Lib.Math.max.name Lib.Math.max.code 2 (some .int), .methodLink RX8 75 yX8_hearRandom, .instanceMethod yX8_hearRandom, .selects RX8 yX8_hearRandom yX8_hearRandom, .code yX8_hearRandom cX8_hearRandom 7 none, .methodLink RX8 116 yX5_keepKey, .instanceMethod yX5_keepKey, .selects RX5 yX5_keepKey yX5_keepKey, .initialized RX5, .code yX5_keepKey cX5_keepKey 3 none, .fieldLink RX5 58 "LowEnergy$Guard" "hasKey" "Z", .fieldLink RX5 7 "LowEnergy$Guard" "key" "[I"] : List Cond) ++ (wsX90 ++ (wsX80 ++ (wsX30 ++ (wsX40 ++ (wsX10 ++ (wsX60 ++ (wsX50 ++ ([])))))))))
theorem hi_Pairing_hear_X9 : ∀ x ∈ u_ws RX9 TX9 2, x ∈ wp_Pairing_hear := fun _ h => List.mem_cons_of_mem _ (List.mem_append_right _ (List.mem_append_left _ h))
theorem hi_Pairing_hear_X8 : ∀ x ∈ u_ws RX8 TX8 8, x ∈ wp_Pairing_hear := fun _ h => List.mem_cons_of_mem _ (List.mem_append_right _ (List.mem_append_right _ (List.mem_append_left _ h)))
theorem hi_Pairing_hear_X3 : ∀ x ∈ u_ws RX3 TX3 19, x ∈ wp_Pairing_hear := fun _ h => List.mem_cons_of_mem _ (List.mem_append_right _ (List.mem_append_right _ (List.mem_append_right _ (List.mem_append_left _ h))))
theorem hi_Pairing_hear_X4 : ∀ x ∈ u_ws RX4 TX4 6, x ∈ wp_Pairing_hear := fun _ h => List.mem_cons_of_mem _ (List.mem_append_right _ (List.mem_append_right _ (List.mem_append_right _ (List.mem_append_right _ (List.mem_append_left _ h)))))
theorem hi_Pairing_hear_X1 : ∀ x ∈ u_ws RX1 TX1 2, x ∈ wp_Pairing_hear := fun _ h => List.mem_cons_of_mem _ (List.mem_append_right _ (List.mem_append_right _ (List.mem_append_right _ (List.mem_append_right _ (List.mem_append_right _ (List.mem_append_left _ h))))))
theorem hi_Pairing_hear_X6 : ∀ x ∈ u_ws RX6 TX6 20, x ∈ wp_Pairing_hear := fun _ h => List.mem_cons_of_mem _ (List.mem_append_right _ (List.mem_append_right _ (List.mem_append_right _ (List.mem_append_right _ (List.mem_append_right _ (List.mem_append_right _ (List.mem_append_left _ h)))))))
theorem hi_Pairing_hear_X5 : ∀ x ∈ u_ws RX5 TX5 16, x ∈ wp_Pairing_hear := fun _ h => List.mem_cons_of_mem _ (List.mem_append_right _ (List.mem_append_right _ (List.mem_append_right _ (List.mem_append_right _ (List.mem_append_right _ (List.mem_append_right _ (List.mem_append_right _ (List.mem_append_left _ h))))))))
set_option maxRecDepth 100000 in
theorem gd_Pairing_hear_Row_at_55 : GoodIn wp_Pairing_hear (wsV RX8 55 RX9 yX9_at wp_Row_at) := goodIn_app (goodIn_r _ [1, 2, 3, 4] rfl rfl) (goodIn_ca (goodIn_r _ [5, 6, 7] rfl rfl) (goodIn_app (goodIn_cls hi_Pairing_hear_X9 gw_X9) (goodIn_nil)))
set_option maxRecDepth 100000 in
theorem gd_Pairing_hear_Pairing_hearRequest_64 : GoodIn wp_Pairing_hear (wsV RX8 64 RX8 yX8_hearRequest wp_Pairing_hearRequest) := goodIn_app (goodIn_r _ [8, 9, 10, 11] rfl rfl) (goodIn_ca (goodIn_r _ [12, 13, 14, 15, 16, 11, 17, 18, 1, 2, 3, 4, 5, 6, 7, 19, 20, 21, 22, 23, 24, 25, 26, 27, 28, 29, 30, 31, 32, 33, 34, 35, 36, 37, 38, 39, 40, 41, 42, 43, 44, 45, 46, 47, 48, 49, 50] rfl rfl) (goodIn_app (goodIn_cls hi_Pairing_hear_X8 gw_X8) (goodIn_app (goodIn_cls hi_Pairing_hear_X9 gw_X9) (goodIn_app (goodIn_cls hi_Pairing_hear_X3 gw_X3) (goodIn_app (goodIn_cls hi_Pairing_hear_X4 gw_X4) (goodIn_nil))))))
set_option maxRecDepth 100000 in
theorem gd_Pairing_hear_Pairing_keepOffer_39 : GoodIn wp_Pairing_hear (wsV RX8 39 RX8 yX8_keepOffer wp_Pairing_keepOffer) := goodIn_app (goodIn_r _ [14, 15, 16, 11] rfl rfl) (goodIn_ca (goodIn_r _ [17, 18, 1, 2, 3, 4, 5, 6, 7] rfl rfl) (goodIn_app (goodIn_cls hi_Pairing_hear_X8 gw_X8) (goodIn_app (goodIn_cls hi_Pairing_hear_X9 gw_X9) (goodIn_nil))))
set_option maxRecDepth 100000 in
theorem gd_Pairing_hear_Pairing_drawAndConfirm_68 : GoodIn wp_Pairing_hear (wsV RX8 68 RX8 yX8_drawAndConfirm wp_Pairing_drawAndConfirm) := goodIn_app (goodIn_r _ [51, 52, 53, 11] rfl rfl) (goodIn_ca (goodIn_r _ [54, 55, 56, 57, 11, 58, 59, 60, 61, 62, 63, 64, 65, 66, 67, 68, 69, 18, 23, 70, 71, 72, 73, 27, 28, 29, 4, 30, 6, 7, 74, 75, 76, 77, 78, 79, 80, 81, 82, 83, 84, 85, 86, 87, 88, 89] rfl rfl) (goodIn_app (goodIn_cls hi_Pairing_hear_X8 gw_X8) (goodIn_app (goodIn_cls hi_Pairing_hear_X1 gw_X1) (goodIn_app (goodIn_cls hi_Pairing_hear_X3 gw_X3) (goodIn_app (goodIn_cls hi_Pairing_hear_X6 gw_X6) (goodIn_app (goodIn_cls hi_Pairing_hear_X9 gw_X9) (goodIn_nil)))))))
set_option maxRecDepth 100000 in
theorem gd_Pairing_hear_Pairing_hearConfirm_72 : GoodIn wp_Pairing_hear (wsV RX8 72 RX8 yX8_hearConfirm wp_Pairing_hearConfirm) := goodIn_app (goodIn_r _ [90, 91, 92, 11] rfl rfl) (goodIn_ca (goodIn_r _ [93, 31, 94, 95, 96, 97, 4, 98, 6, 7, 99, 100, 101, 102, 51, 52, 53, 11, 54, 55, 56, 57, 58, 59, 60, 61, 62, 63, 64, 65, 66, 67, 68, 69, 18, 23, 70, 71, 72, 73, 27, 28, 29, 30, 74, 75, 76, 77, 78, 79, 80, 81, 82, 83, 84, 85, 86, 87, 88, 89] rfl rfl) (goodIn_app (goodIn_cls hi_Pairing_hear_X8 gw_X8) (goodIn_app (goodIn_cls hi_Pairing_hear_X9 gw_X9) (goodIn_app (goodIn_cls hi_Pairing_hear_X3 gw_X3) (goodIn_app (goodIn_cls hi_Pairing_hear_X1 gw_X1) (goodIn_app (goodIn_cls hi_Pairing_hear_X6 gw_X6) (goodIn_nil)))))))
set_option maxRecDepth 100000 in
theorem gd_Pairing_hear_Pairing_hearRandom_75 : GoodIn wp_Pairing_hear (wsV RX8 75 RX8 yX8_hearRandom wp_Pairing_hearRandom) := goodIn_app (goodIn_r _ [103, 104, 105, 11] rfl rfl) (goodIn_ca (goodIn_r _ [106, 31, 36, 37, 38, 39, 40, 41, 42, 43, 44, 45, 46, 47, 48, 4, 49, 6, 50, 60, 78, 59, 61, 62, 63, 64, 65, 66, 67, 68, 107, 108, 109, 110, 111, 112, 113, 27, 28, 29, 30, 7, 74, 75, 76, 77, 1, 2, 3, 5, 94, 32, 33, 34, 11, 35, 95, 96, 97, 98, 99, 100, 101, 102, 55, 56, 57, 58, 69, 18, 23, 70, 71, 72, 73] rfl rfl) (goodIn_app (goodIn_cls hi_Pairing_hear_X8 gw_X8) (goodIn_app (goodIn_cls hi_Pairing_hear_X3 gw_X3) (goodIn_app (goodIn_cls hi_Pairing_hear_X4 gw_X4) (goodIn_app (goodIn_cls hi_Pairing_hear_X9 gw_X9) (goodIn_app (goodIn_cls hi_Pairing_hear_X1 gw_X1) (goodIn_app (goodIn_cls hi_Pairing_hear_X5 gw_X5) (goodIn_app (goodIn_cls hi_Pairing_hear_X6 gw_X6) (goodIn_nil)))))))))
set_option maxRecDepth 100000 in
theorem gd_Pairing_hear_Diary_note_82 : GoodIn wp_Pairing_hear (wsV RX8 82 RX4 yX4_note wp_Diary_note) := goodIn_app (goodIn_r _ [36, 37, 38, 39] rfl rfl) (goodIn_ca (goodIn_r _ [40, 41, 42, 43, 44, 45, 46, 47, 48, 4, 49, 6, 50] rfl rfl) (goodIn_app (goodIn_cls hi_Pairing_hear_X4 gw_X4) (goodIn_app (goodIn_cls hi_Pairing_hear_X9 gw_X9) (goodIn_nil))))
set_option maxHeartbeats 4000000 in
set_option maxRecDepth 100000 in
theorem b_Pairing_hear {p : Program} {l : Launch} {e : Env} {R : Room} {s : State} {m : MethodId} {args : Array Value} {below : List Frame} {meth : Method} {c : Code} {D : va_G} {K : Nat → ClassId} {A : Nat → Prop} {Q : State → Prop} {τ : Nat → Option Ty} {dom : List Nat} {zb zL : Nat} {zx : Nat → Int32} {zs : Nat → Nat} (hR : 4 ≤ R.frames ∧ 99 ≤ R.locals) (B : Bx p s m args c cX8_hear 5 RX8 wp_Pairing_hear D (tysA K) A) (Z : Sk τ dom) (hz : ZL zb zL zx zs A s s.heap) (h : Nat) (d : Nat) (w0 : Nat) (g : Nat) (t_h : τ h = some (38, 0, 0)) (t_d : τ d = some (33, 0, 0)) (t_w0 : τ w0 = some (1, 12, 0)) (t_g : τ g = some (1, 8, 0)) (σ0 : Nat → va_E) (G0 : Good K τ σ0) (hend : ∀ (σ' : Nat → va_E) (lv : List (Nat × Value)) (pc : Nat), Good K τ σ' → Fr τ [(2, 33), (3, 46), (2, 8), (1, 8), (38, 0), (3, 23), (3, 22), (1, 16), (34, 0), (33, 0), (2, 34), (2, 35), (2, 31), (2, 32), (3, 47), (3, 40), (35, 0)] σ0 σ' → decode cX8_hear pc = .ok (.return_, 1) → V p l e R s m args below meth c 5 D A Q (0, 0) (fd dom σ') lv pc []) : V p l e R s m args below meth c 5 D A Q (0, 0) (fd dom σ0) [(0, .ref h), (1, .ref d), (2, .ref w0), (3, .ref g)] 0 [] := by
  have F0 : Fr τ [(2, 33), (3, 46), (2, 8), (1, 8), (38, 0), (3, 23), (3, 22), (1, 16), (34, 0), (33, 0), (2, 34), (2, 35), (2, 31), (2, 32), (3, 47), (3, 40), (35, 0)] σ0 σ0 := Fr.rf
  have J13 : ∀ (z13_s0 : Int), (0 ≤ z13_s0 ∧ z13_s0 ≤ 1) → V p l e R s m args below meth c 5 D A Q (0, 0) (fd dom σ0) [(0, .ref h), (1, .ref d), (2, .ref w0), (3, .ref g)] 13 [.int (iI z13_s0)] := by
    intro z13_s0 r13_s0
    refine v_istore B (lv' := [(4, .int (iI z13_s0)), (0, .ref h), (1, .ref d), (2, .ref w0), (3, .ref g)]) dX8_hear_13 (by decide +kernel) rfl ?_
    refine v_aload_n B dX8_hear_15 rfl rfl ?_
    refine v_iconst B (v := iI 0) dX8_hear_16 rfl ?_
    refine u_callVi B Z hz (n := 1) (As := [.int (iI 0)]) (rest := []) (c_Row_at l D K Z _ _ _ _ w0 0 t_w0 ⟨by omega, by omega⟩ σ0 G0) gd_Pairing_hear_Row_at_55 rfl rfl rfl (by decide +kernel) ⟨Nat.le_trans (by decide +kernel) hR.1, Nat.le_trans (by decide +kernel) hR.2⟩ t_w0 (cls_Row G0 t_w0) rfl rfl rfl rfl (Nat.le_of_ble_eq_true rfl) dX8_hear_17 ⟨Nat.zero_le _, Nat.zero_le _⟩ (fun v3 σ1 p2 => ?_)
    obtain ⟨rfl, z7, e8, r9⟩ := p2
    subst e8
    refine u_tsw B (tgtd := 216) (by omega) dX8_hear_20 (by decide +kernel) ?_ ?_ (tsw_ok (by decide +kernel)) (by decide +kernel)
    · intro i10 o11 g12 o13 x14 t15
      match i10, o13, x14 with
      | 0, o13, x14 =>
        replace o13 : o11 = 36 := by simp at o13; omega
        obtain rfl : g12 = 56 := by omega
        refine v_aload_n B dX8_hear_56 rfl rfl ?_
        obtain ⟨b16, N17, n18, h19, t20, r21⟩ : okRow τ 12 (σ0 w0) := G0 w0 _ t_w0
        refine u_getN B Z (C := RX9) (T := TX9) (N := 2) (ci := 9) hi_Pairing_hear_X9 t_w0 h19 rfl 1 (by decide +kernel) (List.mem_of_getElem? (i := 94) rfl) rfl dX8_hear_57 ?_
        refine v_bipush B (v := iI 7) dX8_hear_60 (by decide +kernel) ?_
        refine u_icmp_ne B (tgt := 216) (by omega) (by omega) dX8_hear_62 (by decide +kernel) (fun c22 => ?_) (fun c22 => ?_)
        · exact hend σ0 _ _ G0 F0 dX8_hear_216
        · refine v_iload B dX8_hear_65 rfl ?_
          refine u_if_ne B (tgt := 216) (by omega) dX8_hear_67 (by decide +kernel) (fun c23 => ?_) (fun c23 => ?_)
          · exact hend σ0 _ _ G0 F0 dX8_hear_216
          · refine v_aload_n B dX8_hear_70 rfl rfl ?_
            refine v_aload_n B dX8_hear_71 rfl rfl ?_
            refine v_aload_n B dX8_hear_72 rfl rfl ?_
            refine v_aload_n B dX8_hear_73 rfl rfl ?_
            refine u_callVv B Z hz (n := 3) (As := [.ref d, .ref w0, .ref g]) (rest := []) (c_Pairing_hearRequest l D K Z _ _ _ _ h d w0 g t_h t_d t_w0 t_g σ0 G0) gd_Pairing_hear_Pairing_hearRequest_64 rfl rfl rfl (by decide +kernel) ⟨Nat.le_trans (by decide +kernel) hR.1, Nat.le_trans (by decide +kernel) hR.2⟩ t_h (cls_Pairing G0 t_h) rfl rfl rfl rfl (Nat.le_of_ble_eq_true rfl) dX8_hear_74 ⟨Nat.zero_le _, Nat.zero_le _⟩ (fun σ24 p25 => ?_)
            obtain ⟨G27, F28⟩ := p25
            have F29 := F0.call F28 (by first | rfl | simp)
            have h30 := (F28 w0 _ t_w0 (by first | rfl | simp)).trans h19
            refine v_goto B (tgt := 216) dX8_hear_77 (by decide +kernel) ?_
            exact hend σ24 _ _ G27 F29 dX8_hear_216
      | 1, o13, x14 =>
        replace o13 : o11 = 60 := by simp at o13; omega
        obtain rfl : g12 = 80 := by omega
        refine v_aload_n B dX8_hear_80 rfl rfl ?_
        obtain ⟨b31, N32, n33, h34, t35, r36⟩ : okRow τ 12 (σ0 w0) := G0 w0 _ t_w0
        refine u_getN B Z (C := RX9) (T := TX9) (N := 2) (ci := 9) hi_Pairing_hear_X9 t_w0 h34 rfl 1 (by decide +kernel) (List.mem_of_getElem? (i := 94) rfl) rfl dX8_hear_81 ?_
        refine v_bipush B (v := iI 7) dX8_hear_84 (by decide +kernel) ?_
        refine u_icmp_ne B (tgt := 216) (by omega) (by omega) dX8_hear_86 (by decide +kernel) (fun c37 => ?_) (fun c37 => ?_)
        · exact hend σ0 _ _ G0 F0 dX8_hear_216
        · refine v_iload B dX8_hear_89 rfl ?_
          refine u_if_eq B (tgt := 216) (by omega) dX8_hear_91 (by decide +kernel) (fun c38 => ?_) (fun c38 => ?_)
          · exact hend σ0 _ _ G0 F0 dX8_hear_216
          · refine v_aload_n B dX8_hear_94 rfl rfl ?_
            obtain ⟨a39, z40, z41, a42, a43, a44, a45, a46, h47, t48, r49, r50, t51, t52, t53, t54, t55⟩ : okPairing τ (σ0 h) := G0 h _ t_h
            refine u_get B Z (C := RX8) (T := TX8) (N := 8) (ci := 8) hi_Pairing_hear_X8 t_h h47 rfl 2 (by decide +kernel) (List.mem_of_getElem? (i := 31) rfl) rfl dX8_hear_95 ?_
            refine v_iconst B (v := iI 1) dX8_hear_98 rfl ?_
            refine u_icmp_ne B (tgt := 216) (by omega) (by omega) dX8_hear_99 (by decide +kernel) (fun c56 => ?_) (fun c56 => ?_)
            · exact hend σ0 _ _ G0 F0 dX8_hear_216
            · refine v_aload_n B dX8_hear_102 rfl rfl ?_
              refine v_aload_n B dX8_hear_103 rfl rfl ?_
              refine v_bipush B (v := iI 9) dX8_hear_104 (by decide +kernel) ?_
              refine u_callVv B Z hz (n := 2) (As := [.ref w0, .int (iI 9)]) (rest := []) (c_Pairing_keepOffer l D K Z _ _ _ _ h w0 9 t_h t_w0 ⟨by omega, by omega⟩ σ0 G0) gd_Pairing_hear_Pairing_keepOffer_39 rfl rfl rfl (by decide +kernel) ⟨Nat.le_trans (by decide +kernel) hR.1, Nat.le_trans (by decide +kernel) hR.2⟩ t_h (cls_Pairing G0 t_h) rfl rfl rfl rfl (Nat.le_of_ble_eq_true rfl) dX8_hear_106 ⟨Nat.zero_le _, Nat.zero_le _⟩ (fun σ57 p58 => ?_)
              obtain ⟨G60, F61⟩ := p58
              have F62 := F0.call F61 (by first | rfl | simp)
              have h63 := (F61 w0 _ t_w0 (by first | rfl | simp)).trans h34
              have h64 := (F61 h _ t_h (by first | rfl | simp)).trans h47
              refine v_aload_n B dX8_hear_109 rfl rfl ?_
              refine v_aload_n B dX8_hear_110 rfl rfl ?_
              refine v_aload_n B dX8_hear_111 rfl rfl ?_
              refine u_callVv B Z hz (n := 2) (As := [.ref d, .ref g]) (rest := []) (c_Pairing_drawAndConfirm l D K Z _ _ _ _ h d g t_h t_d t_g σ57 G60) gd_Pairing_hear_Pairing_drawAndConfirm_68 rfl rfl rfl (by decide +kernel) ⟨Nat.le_trans (by decide +kernel) hR.1, Nat.le_trans (by decide +kernel) hR.2⟩ t_h (cls_Pairing G60 t_h) rfl rfl rfl rfl (Nat.le_of_ble_eq_true rfl) dX8_hear_112 ⟨Nat.zero_le _, Nat.zero_le _⟩ (fun σ65 p66 => ?_)
              obtain ⟨G68, F69⟩ := p66
              have F70 := F62.call F69 (by first | rfl | simp)
              have h71 := (F69 w0 _ t_w0 (by first | rfl | simp)).trans h63
              have h72 := (F69 h _ t_h (by first | rfl | simp)).trans h64
              refine v_aload_n B dX8_hear_115 rfl rfl ?_
              refine v_iconst B (v := iI 2) dX8_hear_116 rfl ?_
              refine u_put B Z (C := RX8) (T := TX8) (N := 8) (ci := 8) hi_Pairing_hear_X8 t_h h72 rfl 2 (by decide +kernel) tyX8 tyX8_ok nmX8 (List.mem_of_getElem? (i := 31) rfl) rfl (ty := .int) (tyX8_ok 2 (by decide +kernel)) rfl rfl (Nat.le_of_ble_eq_true rfl) (fs' := [.ref a39, .int (iI z40), .int (iI 2), .ref a42, .ref a43, .ref a44, .ref a45, .ref a46]) rfl dX8_hear_117 (fun σ73 h74 n75 => ?_)
              have G76 := G68.put t_h (⟨a39, z40, 2, a42, a43, a44, a45, a46, h74, t48, ⟨by omega, by omega⟩, ⟨by omega, by omega⟩, t51, t52, t53, t54, t55⟩ : Ok K τ (38, 0, 0) (σ73 h)) n75
              have F77 := F70.put t_h (by simp) n75
              have h78 := (n75 w0 (ne_ty t_w0 t_h (by simp))).trans h71
              refine v_goto B (tgt := 216) dX8_hear_120 (by decide +kernel) ?_
              exact hend σ73 _ _ G76 F77 dX8_hear_216
      | 2, o13, x14 =>
        replace o13 : o11 = 103 := by simp at o13; omega
        obtain rfl : g12 = 123 := by omega
        refine v_aload_n B dX8_hear_123 rfl rfl ?_
        obtain ⟨b79, N80, n81, h82, t83, r84⟩ : okRow τ 12 (σ0 w0) := G0 w0 _ t_w0
        refine u_getN B Z (C := RX9) (T := TX9) (N := 2) (ci := 9) hi_Pairing_hear_X9 t_w0 h82 rfl 1 (by decide +kernel) (List.mem_of_getElem? (i := 94) rfl) rfl dX8_hear_124 ?_
        refine v_bipush B (v := iI 17) dX8_hear_127 (by decide +kernel) ?_
        refine u_icmp_ne B (tgt := 216) (by omega) (by omega) dX8_hear_129 (by decide +kernel) (fun c85 => ?_) (fun c85 => ?_)
        · exact hend σ0 _ _ G0 F0 dX8_hear_216
        · refine v_aload_n B dX8_hear_132 rfl rfl ?_
          obtain ⟨a86, z87, z88, a89, a90, a91, a92, a93, h94, t95, r96, r97, t98, t99, t100, t101, t102⟩ : okPairing τ (σ0 h) := G0 h _ t_h
          refine u_get B Z (C := RX8) (T := TX8) (N := 8) (ci := 8) hi_Pairing_hear_X8 t_h h94 rfl 2 (by decide +kernel) (List.mem_of_getElem? (i := 31) rfl) rfl dX8_hear_133 ?_
          refine v_iconst B (v := iI 2) dX8_hear_136 rfl ?_
          refine u_icmp_ne B (tgt := 216) (by omega) (by omega) dX8_hear_137 (by decide +kernel) (fun c103 => ?_) (fun c103 => ?_)
          · exact hend σ0 _ _ G0 F0 dX8_hear_216
          · refine v_aload_n B dX8_hear_140 rfl rfl ?_
            refine v_aload_n B dX8_hear_141 rfl rfl ?_
            refine v_aload_n B dX8_hear_142 rfl rfl ?_
            refine v_aload_n B dX8_hear_143 rfl rfl ?_
            refine u_callVv B Z hz (n := 3) (As := [.ref d, .ref w0, .ref g]) (rest := []) (c_Pairing_hearConfirm l D K Z _ _ _ _ h d w0 g t_h t_d t_w0 t_g σ0 G0) gd_Pairing_hear_Pairing_hearConfirm_72 rfl rfl rfl (by decide +kernel) ⟨Nat.le_trans (by decide +kernel) hR.1, Nat.le_trans (by decide +kernel) hR.2⟩ t_h (cls_Pairing G0 t_h) rfl rfl rfl rfl (Nat.le_of_ble_eq_true rfl) dX8_hear_144 ⟨Nat.zero_le _, Nat.zero_le _⟩ (fun σ104 p105 => ?_)
            obtain ⟨G107, F108⟩ := p105
            have F109 := F0.call F108 (by first | rfl | simp)
            have h110 := (F108 w0 _ t_w0 (by first | rfl | simp)).trans h82
            refine v_goto B (tgt := 216) dX8_hear_147 (by decide +kernel) ?_
            exact hend σ104 _ _ G107 F109 dX8_hear_216
      | 3, o13, x14 =>
        replace o13 : o11 = 130 := by simp at o13; omega
        obtain rfl : g12 = 150 := by omega
        refine v_aload_n B dX8_hear_150 rfl rfl ?_
        obtain ⟨b111, N112, n113, h114, t115, r116⟩ : okRow τ 12 (σ0 w0) := G0 w0 _ t_w0
        refine u_getN B Z (C := RX9) (T := TX9) (N := 2) (ci := 9) hi_Pairing_hear_X9 t_w0 h114 rfl 1 (by decide +kernel) (List.mem_of_getElem? (i := 94) rfl) rfl dX8_hear_151 ?_
        refine v_bipush B (v := iI 17) dX8_hear_154 (by decide +kernel) ?_
        refine u_icmp_ne B (tgt := 216) (by omega) (by omega) dX8_hear_156 (by decide +kernel) (fun c117 => ?_) (fun c117 => ?_)
        · exact hend σ0 _ _ G0 F0 dX8_hear_216
        · refine v_aload_n B dX8_hear_159 rfl rfl ?_
          obtain ⟨a118, z119, z120, a121, a122, a123, a124, a125, h126, t127, r128, r129, t130, t131, t132, t133, t134⟩ : okPairing τ (σ0 h) := G0 h _ t_h
          refine u_get B Z (C := RX8) (T := TX8) (N := 8) (ci := 8) hi_Pairing_hear_X8 t_h h126 rfl 2 (by decide +kernel) (List.mem_of_getElem? (i := 31) rfl) rfl dX8_hear_160 ?_
          refine v_iconst B (v := iI 3) dX8_hear_163 rfl ?_
          refine u_icmp_ne B (tgt := 216) (by omega) (by omega) dX8_hear_164 (by decide +kernel) (fun c135 => ?_) (fun c135 => ?_)
          · exact hend σ0 _ _ G0 F0 dX8_hear_216
          · refine v_aload_n B dX8_hear_167 rfl rfl ?_
            refine v_aload_n B dX8_hear_168 rfl rfl ?_
            refine v_aload_n B dX8_hear_169 rfl rfl ?_
            refine v_aload_n B dX8_hear_170 rfl rfl ?_
            refine u_callVv B Z hz (n := 3) (As := [.ref d, .ref w0, .ref g]) (rest := []) (c_Pairing_hearRandom l D K Z _ _ _ _ h d w0 g t_h t_d t_w0 t_g σ0 G0 (fun b n e h0 h1 => by have q := row_inj (h114.symm.trans e) (by omega) (by omega); omega)) gd_Pairing_hear_Pairing_hearRandom_75 rfl rfl rfl (by decide +kernel) ⟨Nat.le_trans (by decide +kernel) hR.1, Nat.le_trans (by decide +kernel) hR.2⟩ t_h (cls_Pairing G0 t_h) rfl rfl rfl rfl (Nat.le_of_ble_eq_true rfl) dX8_hear_171 ⟨Nat.zero_le _, Nat.zero_le _⟩ (fun σ136 p137 => ?_)
            obtain ⟨G139, F140⟩ := p137
            have F141 := F0.call F140 (by first | rfl | simp)
            have h142 := (F140 w0 _ t_w0 (by first | rfl | simp)).trans h114
            refine v_goto B (tgt := 216) dX8_hear_174 (by decide +kernel) ?_
            exact hend σ136 _ _ G139 F141 dX8_hear_216
      | 4, o13, x14 =>
        replace o13 : o11 = 157 := by simp at o13; omega
        obtain rfl : g12 = 177 := by omega
        refine v_aload_n B dX8_hear_177 rfl rfl ?_
        obtain ⟨b143, N144, n145, h146, t147, r148⟩ : okRow τ 12 (σ0 w0) := G0 w0 _ t_w0
        refine u_getN B Z (C := RX9) (T := TX9) (N := 2) (ci := 9) hi_Pairing_hear_X9 t_w0 h146 rfl 1 (by decide +kernel) (List.mem_of_getElem? (i := 94) rfl) rfl dX8_hear_178 ?_
        refine v_iconst B (v := iI 2) dX8_hear_181 rfl ?_
        refine u_icmp_ne B (tgt := 216) (by omega) (by omega) dX8_hear_182 (by decide +kernel) (fun c149 => ?_) (fun c149 => ?_)
        · exact hend σ0 _ _ G0 F0 dX8_hear_216
        · refine v_aload_n B dX8_hear_185 rfl rfl ?_
          obtain ⟨a150, z151, z152, a153, a154, a155, a156, a157, h158, t159, r160, r161, t162, t163, t164, t165, t166⟩ : okPairing τ (σ0 h) := G0 h _ t_h
          refine u_get B Z (C := RX8) (T := TX8) (N := 8) (ci := 8) hi_Pairing_hear_X8 t_h h158 rfl 2 (by decide +kernel) (List.mem_of_getElem? (i := 31) rfl) rfl dX8_hear_186 ?_
          refine u_if_eq B (tgt := 216) (by omega) dX8_hear_189 (by decide +kernel) (fun c167 => ?_) (fun c167 => ?_)
          · exact hend σ0 _ _ G0 F0 dX8_hear_216
          · refine v_aload_n B dX8_hear_192 rfl rfl ?_
            refine v_iconst B (v := iI 0) dX8_hear_193 rfl ?_
            refine u_put B Z (C := RX8) (T := TX8) (N := 8) (ci := 8) hi_Pairing_hear_X8 t_h h158 rfl 2 (by decide +kernel) tyX8 tyX8_ok nmX8 (List.mem_of_getElem? (i := 31) rfl) rfl (ty := .int) (tyX8_ok 2 (by decide +kernel)) rfl rfl (Nat.le_of_ble_eq_true rfl) (fs' := [.ref a150, .int (iI z151), .int (iI 0), .ref a153, .ref a154, .ref a155, .ref a156, .ref a157]) rfl dX8_hear_194 (fun σ168 h169 n170 => ?_)
            have G171 := G0.put t_h (⟨a150, z151, 0, a153, a154, a155, a156, a157, h169, t159, ⟨by omega, by omega⟩, ⟨by omega, by omega⟩, t162, t163, t164, t165, t166⟩ : Ok K τ (38, 0, 0) (σ168 h)) n170
            have F172 := F0.put t_h (by simp) n170
            have h173 := (n170 w0 (ne_ty t_w0 t_h (by simp))).trans h146
            refine v_aload_n B dX8_hear_197 rfl rfl ?_
            obtain ⟨z174, yy175, z176, z177, z178, z179, a180, z181, yy182, a183, yy184, a185, a186, a187, a188, a189, a190, a191, a192, h193, r194, r195, r196, r197, r198, r199, t200, r201, r202, t203, r204, t205, t206, t207, t208, t209, t210, t211, t212⟩ : okDevice τ (σ168 d) := G171 d _ t_d
            refine u_getN B Z (C := RX3) (T := TX3) (N := 19) (ci := 3) hi_Pairing_hear_X3 t_d h193 rfl 17 (by decide +kernel) (List.mem_of_getElem? (i := 95) rfl) rfl dX8_hear_198 ?_
            refine v_bipush B (v := iI 11) dX8_hear_201 (by decide +kernel) ?_
            refine v_aload_n B dX8_hear_203 rfl rfl ?_
            refine v_iconst B (v := iI 1) dX8_hear_204 rfl ?_
            refine u_callVi B Z hz (n := 1) (As := [.int (iI 1)]) (rest := [.int (iI 11), .ref a191]) (c_Row_at l D K Z _ _ _ _ w0 1 t_w0 ⟨by omega, by omega⟩ σ168 G171) gd_Pairing_hear_Row_at_55 rfl rfl rfl (by decide +kernel) ⟨Nat.le_trans (by decide +kernel) hR.1, Nat.le_trans (by decide +kernel) hR.2⟩ t_w0 (cls_Row G171 t_w0) rfl rfl rfl rfl (Nat.le_of_ble_eq_true rfl) dX8_hear_205 ⟨Nat.zero_le _, Nat.zero_le _⟩ (fun v215 σ213 p214 => ?_)
            obtain ⟨rfl, z219, e220, r221⟩ := p214
            subst e220
            refine v_iconst B (v := iI 0) dX8_hear_208 rfl ?_
            refine v_iconst B (v := iI 0) dX8_hear_209 rfl ?_
            refine u_callVv B Z hz (n := 4) (As := [.int (iI 11), .int (iI z219), .int (iI 0), .int (iI 0)]) (rest := []) (c_Diary_note l D K Z _ _ _ _ a191 11 z219 0 0 t211 ⟨by omega, by omega⟩ ⟨by omega, by omega⟩ ⟨by omega, by omega⟩ ⟨by omega, by omega⟩ σ168 G171) gd_Pairing_hear_Diary_note_82 rfl rfl rfl (by decide +kernel) ⟨Nat.le_trans (by decide +kernel) hR.1, Nat.le_trans (by decide +kernel) hR.2⟩ t211 (cls_Diary G171 t211) rfl rfl rfl rfl (Nat.le_of_ble_eq_true rfl) dX8_hear_210 ⟨Nat.zero_le _, Nat.zero_le _⟩ (fun σ222 p223 => ?_)
            obtain ⟨G225, F226⟩ := p223
            have F227 := F172.call F226 (by first | rfl | simp)
            have h228 := (F226 w0 _ t_w0 (by first | rfl | simp)).trans h173
            have h229 := (F226 h _ t_h (by first | rfl | simp)).trans h169
            have h230 := (F226 d _ t_d (by first | rfl | simp)).trans h193
            refine v_goto B (tgt := 216) dX8_hear_213 (by decide +kernel) ?_
            exact hend σ222 _ _ G225 F227 dX8_hear_216
      | i10 + 5, o13, x14 => exact absurd (o13.symm.trans (Array.getElem?_eq_none (by simp))) (by simp)
    · intro x14
      exact hend σ0 _ _ G0 F0 dX8_hear_216
  refine v_aload_n B dX8_hear_0 rfl rfl ?_
  obtain ⟨z231, yy232, z233, z234, z235, z236, a237, z238, yy239, a240, yy241, a242, a243, a244, a245, a246, a247, a248, a249, h250, r251, r252, r253, r254, r255, r256, t257, r258, r259, t260, r261, t262, t263, t264, t265, t266, t267, t268, t269⟩ : okDevice τ (σ0 d) := G0 d _ t_d
  refine u_getN B Z (C := RX3) (T := TX3) (N := 19) (ci := 3) hi_Pairing_hear_X3 t_d h250 rfl 2 (by decide +kernel) (List.mem_of_getElem? (i := 93) rfl) rfl dX8_hear_1 ?_
  refine v_iconst B (v := iI 4) dX8_hear_4 rfl ?_
  refine u_icmp_ne B (tgt := 12) (by omega) (by omega) dX8_hear_5 (by decide +kernel) (fun c270 => ?_) (fun c270 => ?_)
  · refine v_iconst B (v := iI 0) dX8_hear_12 rfl ?_
    exact J13 0 ⟨by omega, by omega⟩
  · refine v_iconst B (v := iI 1) dX8_hear_8 rfl ?_
    refine v_goto B (tgt := 13) dX8_hear_9 (by decide +kernel) ?_
    exact J13 1 ⟨by omega, by omega⟩
set_option maxRecDepth 100000 in
theorem c_Pairing_hear (l : Launch) (D : va_G) (K : Nat → ClassId) {τ : Nat → Option Ty} {dom : List Nat} (Z : Sk τ dom) (zb zL : Nat) (zx : Nat → Int32) (zs : Nat → Nat) (h : Nat) (d : Nat) (w0 : Nat) (g : Nat) (t_h : τ h = some (38, 0, 0)) (t_d : τ d = some (33, 0, 0)) (t_w0 : τ w0 = some (1, 12, 0)) (t_g : τ g = some (1, 8, 0)) (σ0 : Nat → va_E) (G0 : Good K τ σ0) : MZ l yX8_hear wp_Pairing_hear ({ frames := 4, cells := 0, slots := 0, locals := 99 }) D (tysA K) [.ref h, .ref d, .ref w0, .ref g] (fd dom σ0) zb zL zx zs (Qv D (fun σ' => Good K τ σ' ∧ Fr τ [(2, 33), (3, 46), (2, 8), (1, 8), (38, 0), (3, 23), (3, 22), (1, 16), (34, 0), (33, 0), (2, 34), (2, 35), (2, 31), (2, 32), (3, 47), (3, 40), (35, 0)] σ0 σ') (fun σ' => fd dom σ')) 0 0 := by
  refine mz_of (cc := cX8_hear) (maxL := 5) (ret := none) (by decide +kernel) rfl (Nat.le_of_ble_eq_true rfl) ?_
  intro p e s m below meth c A B hr hlk _ hz
  exact b_Pairing_hear ⟨Nat.le_refl _, Nat.le_refl _⟩ B Z hz h d w0 g t_h t_d t_w0 t_g σ0 G0 (fun σ' lv pc G F hd => v_vret B hr hlk σ' ⟨G, F⟩ rfl (Nat.le_refl _) (Nat.le_refl _) hd)
