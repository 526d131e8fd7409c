def wp_M_meets : List Cond := .code yX12_meets cX12_meets 4 none :: (([.methodLink RX12 653 yX12_sendsLink, .instanceMethod yX12_sendsLink, .selects RX12 yX12_sendsLink yX12_sendsLink, .initialized RX12, .code yX12_sendsLink cX12_sendsLink 2 (some .int), .fieldLink RX12 200 "LowEnergyModel" "current" "[B", .fieldLink RX12 176 "LowEnergyModel" "sending" "[B", .fieldLink RX12 185 "LowEnergyModel" "currentMany" "[I", .methodLink RX12 29 yX12_copy, .static yX12_copy, .code yX12_copy cX12_copy 6 none, .fieldLink RX12 142 "LowEnergyModel" "access" "[B", .fieldLink RX12 109 "LowEnergyModel" "init" "[I", .fieldLink RX12 118 "LowEnergyModel" "channel" "[I", .fieldLink RX12 182 "LowEnergyModel" "currentSort" "[I", .fieldLink RX12 127 "LowEnergyModel" "nesn" "[I", .fieldLink RX12 124 "LowEnergyModel" "sn" "[I", .methodLink RX12 466 yX12_sends, .instanceMethod yX12_sends, .selects RX12 yX12_sends yX12_sends, .code yX12_sends cX12_sends 11 (some .int), .fieldLink RX12 164 "LowEnergyModel" "air" "[B", .fieldLink RX12 94 "LowEnergyModel" "lost" "[I", .fieldLink RX12 97 "LowEnergyModel" "noises" "[I", .fieldLink RX12 429 "LowEnergyModel" "packets" "I", .fieldLink RX12 167 "LowEnergyModel" "airMany" "[I", .fieldLink RX12 170 "LowEnergyModel" "airChannel" "[I", .fieldLink RX12 173 "LowEnergyModel" "airLost" "[Z", .fieldLink RX12 100 "LowEnergyModel" "noise" "[I", .methodLink RX12 425 yX12_whiten, .static yX12_whiten, .code yX12_whiten cX12_whiten 7 none, .methodLink RX12 422 yX12_crcByte, .static yX12_crcByte, .code yX12_crcByte cX12_crcByte 4 (some .int), .methodLink RX12 418 yX12_crc, .static yX12_crc, .code yX12_crc cX12_crc 7 (some .int), .constant RX12 417 (16777215), .methodLink RX12 463 yX12_takesNext, .instanceMethod yX12_takesNext, .selects RX12 yX12_takesNext yX12_takesNext, .code yX12_takesNext cX12_takesNext 4 none, .fieldLink RX12 194 "LowEnergyModel" "out" "[I", .methodLink RX12 451 yX12_macs, .instanceMethod yX12_macs, .selects RX12 yX12_macs yX12_macs, .code yX12_macs cX12_macs 10 none, .fieldLink RX12 254 "LowEnergyModel" "mac" "[B", .fieldLink RX12 257 "LowEnergyModel" "stream" "[B", .fieldLink RX12 209 "LowEnergyModel" "session" "[B", .methodLink RX12 444 yX12_e, .instanceMethod yX12_e, .selects RX12 yX12_e yX12_e, .code yX12_e cX12_e 13 none, .fieldLink RX12 33 "LowEnergyModel" "cells" "[B", .fieldLink RX12 26 "LowEnergyModel" "round" "[B", .fieldLink RX12 36 "LowEnergyModel" "moved" "[B", .methodLink RX12 14 yX12_twice, .static yX12_twice, .code yX12_twice cX12_twice 1 (some .int), .fieldLink RX12 22 "LowEnergyModel" "box" "[I", .methodLink RX12 440 yX12_nonce, .instanceMethod yX12_nonce, .selects RX12 yX12_nonce yX12_nonce, .code yX12_nonce cX12_nonce 7 none, .fieldLink RX12 251 "LowEnergyModel" "block" "[B", .methodLink RX12 432 yX12_number, .static yX12_number, .code yX12_number cX12_number 6 none, .fieldLink RX12 212 "LowEnergyModel" "iv" "[B", .methodLink RX12 455 yX12_turns, .instanceMethod yX12_turns, .selects RX12 yX12_turns yX12_turns, .code yX12_turns cX12_turns 9 none, .fieldLink RX12 233 "LowEnergyModel" "sealsOut" "[Z", .fieldLink RX12 45 "LowEnergyModel" "state" "[I", .fieldLink RX12 188 "LowEnergyModel" "currentOp" "[I", .fieldLink RX12 191 "LowEnergyModel" "controls" "[I", .fieldLink RX12 203 "LowEnergyModel" "control" "[B", .fieldLink RX12 221 "LowEnergyModel" "controlMany" "[I", .fieldLink RX12 224 "LowEnergyModel" "held" "[Z", .fieldLink RX12 275 "LowEnergyModel" "messages" "[I", .fieldLink RX12 272 "LowEnergyModel" "messageMany" "[I", .fieldLink RX12 278 "LowEnergyModel" "taken" "[I", .methodLink RX12 404 Lib.Math.min.name, .static Lib.Math.min.name, .initialized "java/lang/Math", .code Lib.Math.min.name Lib.Math.min.code 2 (some .int), .fieldLink RX12 266 "LowEnergyModel" "message" "[B", .methodLink RX12 448 yX12_drops, .instanceMethod yX12_drops, .selects RX12 yX12_drops yX12_drops, .code yX12_drops cX12_drops 4 none, .fieldLink RX12 136 "LowEnergyModel" "ending" "[I", .methodLink RX12 459 yX12_reasons, .instanceMethod yX12_reasons, .selects RX12 yX12_reasons yX12_reasons, .code yX12_reasons cX12_reasons 3 none, .fieldLink RX12 133 "LowEnergyModel" "reason" "[I", .methodLink RX12 640 yX12_isHeard, .instanceMethod yX12_isHeard, .selects RX12 yX12_isHeard yX12_isHeard, .code yX12_isHeard cX12_isHeard 7 (some .boolean), .methodLink RX12 644 yX12_isGood, .instanceMethod yX12_isGood, .selects RX12 yX12_isGood yX12_isGood, .code yX12_isGood cX12_isGood 6 (some .boolean), .fieldLink RX12 179 "LowEnergyModel" "got" "[B", .methodLink RX12 656 yX12_takesGood, .instanceMethod yX12_takesGood, .selects RX12 yX12_takesGood yX12_takesGood, .code yX12_takesGood cX12_takesGood 8 none, .methodLink RX12 476 yX12_pieces, .instanceMethod yX12_pieces, .selects RX12 yX12_pieces yX12_pieces, .code yX12_pieces cX12_pieces 7 none, .fieldLink RX12 269 "LowEnergyModel" "whole" "[B", .fieldLink RX12 293 "LowEnergyModel" "asks" "[B", .methodLink RX12 525 yX12_attributes, .instanceMethod yX12_attributes, .selects RX12 yX12_attributes yX12_attributes, .code yX12_attributes cX12_attributes 4 none, .methodLink RX12 562 yX12_asked, .instanceMethod yX12_asked, .selects RX12 yX12_asked yX12_asked, .code yX12_asked cX12_asked 7 none, .methodLink RX12 590 yX12_reads, .instanceMethod yX12_reads, .selects RX12 yX12_reads yX12_reads, .code yX12_reads cX12_reads 9 none, .methodLink RX12 564 yX12_error, .instanceMethod yX12_error, .selects RX12 yX12_error yX12_error, .code yX12_error cX12_error 5 none, .fieldLink RX12 290 "LowEnergyModel" "said" "[B", .methodLink RX12 527 yX12_says, .instanceMethod yX12_says, .selects RX12 yX12_says yX12_says, .code yX12_says cX12_says 5 none, .fieldLink RX12 329 "LowEnergyModel" "length" "[I", .fieldLink RX12 332 "LowEnergyModel" "mtu" "[I", .fieldLink RX12 341 "LowEnergyModel" "values" "[B", .methodLink RX12 570 yX12_lacks, .instanceMethod yX12_lacks, .selects RX12 yX12_lacks yX12_lacks, .code yX12_lacks cX12_lacks 5 (some .int), .fieldLink RX12 326 "LowEnergyModel" "rights" "[I", .methodLink RX12 547 yX12_row, .instanceMethod yX12_row, .selects RX12 yX12_row yX12_row, .code yX12_row cX12_row 3 (some .int), .fieldLink RX12 239 "LowEnergyModel" "isSecure" "[Z", .methodLink RX12 567 yX12_isHandle, .instanceMethod yX12_isHandle, .selects RX12 yX12_isHandle yX12_isHandle, .code yX12_isHandle cX12_isHandle 3 (some .boolean), .fieldLink RX12 320 "LowEnergyModel" "attributes" "[I", .methodLink RX12 593 yX12_writing, .instanceMethod yX12_writing, .selects RX12 yX12_writing yX12_writing, .code yX12_writing cX12_writing 8 none, .fieldLink RX12 338 "LowEnergyModel" "parts" "[I", .fieldLink RX12 350 "LowEnergyModel" "partHandle" "[I", .fieldLink RX12 353 "LowEnergyModel" "partPlace" "[I", .fieldLink RX12 356 "LowEnergyModel" "partMany" "[I", .fieldLink RX12 344 "LowEnergyModel" "partBytes" "[B", .methodLink RX12 574 yX12_writes, .instanceMethod yX12_writes, .selects RX12 yX12_writes yX12_writes, .code yX12_writes cX12_writes 4 none, .methodLink RX12 587 yX12_executes, .instanceMethod yX12_executes, .selects RX12 yX12_executes yX12_executes, .code yX12_executes cX12_executes 9 none, .fieldLink RX12 359 "LowEnergyModel" "trialLength" "[I", .fieldLink RX12 347 "LowEnergyModel" "trial" "[B", .methodLink RX12 596 Lib.Math.max.name, .static Lib.Math.max.name, .code Lib.Math.max.name Lib.Math.max.code 2 (some .int), .methodLink RX12 584 yX12_mtus, .instanceMethod yX12_mtus, .selects RX12 yX12_mtus yX12_mtus, .code yX12_mtus cX12_mtus 3 none, .fieldLink RX12 335 "LowEnergyModel" "ownMtu" "[I", .methodLink RX12 581 yX12_lists, .instanceMethod yX12_lists, .selects RX12 yX12_lists yX12_lists, .code yX12_lists cX12_lists 16 none, .methodLink RX12 603 yX12_endOf, .instanceMethod yX12_endOf, .selects RX12 yX12_endOf yX12_endOf, .code yX12_endOf cX12_endOf 4 (some .int), .fieldLink RX12 323 "LowEnergyModel" "type" "[I", .methodLink RX12 599 yX12_isValue, .instanceMethod yX12_isValue, .selects RX12 yX12_isValue yX12_isValue, .code yX12_isValue cX12_isValue 8 (some .boolean), .methodLink RX12 489 yX12_two, .static yX12_two, .code yX12_two cX12_two 2 (some .int), .methodLink RX12 577 yX12_hasBytes, .instanceMethod yX12_hasBytes, .selects RX12 yX12_hasBytes yX12_hasBytes, .code yX12_hasBytes cX12_hasBytes 4 (some .boolean), .methodLink RX12 556 yX12_toldOf, .instanceMethod yX12_toldOf, .selects RX12 yX12_toldOf yX12_toldOf, .code yX12_toldOf cX12_toldOf 4 none, .methodLink RX12 409 yX12_complete, .instanceMethod yX12_complete, .selects RX12 yX12_complete yX12_complete, .code yX12_complete cX12_complete 11 none, .fieldLink RX12 155 "LowEnergyModel" "kept" "[I", .fieldLink RX12 158 "LowEnergyModel" "keptMany" "[I", .fieldLink RX12 161 "LowEnergyModel" "notKept" "[I", .methodLink RX12 559 yX12_writesAlone, .instanceMethod yX12_writesAlone, .selects RX12 yX12_writesAlone yX12_writesAlone, .code yX12_writesAlone cX12_writesAlone 4 none, .methodLink RX12 553 yX12_confirmed, .instanceMethod yX12_confirmed, .selects RX12 yX12_confirmed yX12_confirmed, .code yX12_confirmed cX12_confirmed 3 none, .fieldLink RX12 362 "LowEnergyModel" "waits30" "[Z", .methodLink RX12 504 yX12_complete_, .instanceMethod yX12_complete_, .selects RX12 yX12_complete_ yX12_complete_, .code yX12_complete_ cX12_complete_ 6 none, .fieldLink RX12 10 "LowEnergyModel" "tape" "[B", .methodLink RX12 550 yX12_answered, .instanceMethod yX12_answered, .selects RX12 yX12_answered yX12_answered, .code yX12_answered cX12_answered 6 none, .fieldLink RX12 377 "LowEnergyModel" "place" "[I", .fieldLink RX12 380 "LowEnergyModel" "jobMany" "[I", .fieldLink RX12 368 "LowEnergyModel" "jobA" "[I", .fieldLink RX12 383 "LowEnergyModel" "jobBytes" "[B", .methodLink RX12 621 yX12_ends, .instanceMethod yX12_ends, .selects RX12 yX12_ends yX12_ends, .code yX12_ends cX12_ends 3 none, .fieldLink RX12 365 "LowEnergyModel" "job" "[I", .methodLink RX12 630 yX12_asksFor, .instanceMethod yX12_asksFor, .selects RX12 yX12_asksFor yX12_asksFor, .code yX12_asksFor cX12_asksFor 3 none, .methodLink RX12 606 yX12_request, .instanceMethod yX12_request, .selects RX12 yX12_request yX12_request, .code yX12_request cX12_request 4 none, .fieldLink RX12 374 "LowEnergyModel" "due" "[I", .constantLong RX12 609 (65535), .constantLong RX12 611 (10240), .fieldLink RX12 371 "LowEnergyModel" "jobB" "[I", .constantLong RX12 613 (10243), .methodLink RX12 615 yX12_asksToWrite, .instanceMethod yX12_asksToWrite, .selects RX12 yX12_asksToWrite yX12_asksToWrite, .code yX12_asksToWrite cX12_asksToWrite 3 none, .methodLink RX12 624 yX12_isAnswer, .instanceMethod yX12_isAnswer, .selects RX12 yX12_isAnswer yX12_isAnswer, .code yX12_isAnswer cX12_isAnswer 3 (some .boolean), .methodLink RX12 618 yX12_areRows, .static yX12_areRows, .code yX12_areRows cX12_areRows 4 (some .boolean), .methodLink RX12 627 yX12_rows, .instanceMethod yX12_rows, .selects RX12 yX12_rows yX12_rows, .code yX12_rows cX12_rows 11 none, .constant RX12 493 (65535), .methodLink RX12 522 yX12_pairs, .instanceMethod yX12_pairs, .selects RX12 yX12_pairs yX12_pairs, .code yX12_pairs cX12_pairs 8 none, .fieldLink RX12 296 "LowEnergyModel" "step" "[I", .methodLink RX12 531 yX12_fails, .instanceMethod yX12_fails, .selects RX12 yX12_fails yX12_fails, .code yX12_fails cX12_fails 4 none, .fieldLink RX12 317 "LowEnergyModel" "pair" "[B", .fieldLink RX12 311 "LowEnergyModel" "ownRandom" "[B", .fieldLink RX12 314 "LowEnergyModel" "tkRow" "[B", .fieldLink RX12 206 "LowEnergyModel" "key" "[B", .fieldLink RX12 245 "LowEnergyModel" "hasKey" "[Z", .methodLink RX12 540 yX12_saysRow, .instanceMethod yX12_saysRow, .selects RX12 yX12_saysRow yX12_saysRow, .code yX12_saysRow cX12_saysRow 5 none, .fieldLink RX12 308 "LowEnergyModel" "confirm" "[B", .methodLink RX12 544 yX12_c, .instanceMethod yX12_c, .selects RX12 yX12_c yX12_c, .code yX12_c cX12_c 9 none, .fieldLink RX12 60 "LowEnergyModel" "address" "[J", .fieldLink RX12 64 "LowEnergyModel" "peer" "[J", .fieldLink RX12 305 "LowEnergyModel" "firstTwo" "[B", .fieldLink RX12 302 "LowEnergyModel" "tk" "[I", .methodLink RX12 537 yX12_tells, .instanceMethod yX12_tells, .selects RX12 yX12_tells yX12_tells, .code yX12_tells cX12_tells 3 none, .methodLink RX12 480 yX12_draw, .instanceMethod yX12_draw, .selects RX12 yX12_draw yX12_draw, .code yX12_draw cX12_draw 2 (some .int), .fieldLink RX12 48 "LowEnergyModel" "x" "[I", .constant RX12 395 (1103515245), .fieldLink RX12 299 "LowEnergyModel" "passkey" "[I", .methodLink RX12 534 yX12_saysFirst, .instanceMethod yX12_saysFirst, .selects RX12 yX12_saysFirst yX12_saysFirst, .code yX12_saysFirst cX12_saysFirst 3 none, .fieldLink RX12 287 "LowEnergyModel" "begun" "[Z", .fieldLink RX12 281 "LowEnergyModel" "wholeMany" "[I", .fieldLink RX12 284 "LowEnergyModel" "wholeAll" "[I", .fieldLink RX12 263 "LowEnergyModel" "came" "[B", .methodLink RX12 473 yX12_controlled, .instanceMethod yX12_controlled, .selects RX12 yX12_controlled yX12_controlled, .code yX12_controlled cX12_controlled 8 none, .fieldLink RX12 112 "LowEnergyModel" "event" "[I", .fieldLink RX12 73 "LowEnergyModel" "newMap" "[J", .methodLink RX12 494 yX12_number_, .static yX12_number_, .code yX12_number_ cX12_number_ 6 (some .long), .fieldLink RX12 139 "LowEnergyModel" "instant" "[I", .fieldLink RX12 149 "LowEnergyModel" "mapWaits" "[Z", .methodLink RX12 497 yX12_isMap, .static yX12_isMap, .code yX12_isMap cX12_isMap 2 (some .boolean), .constantLong RX12 396 (137438953472), .methodLink RX12 398 yJ13_bitCount_95d88, .static yJ13_bitCount_95d88, .initialized RJ13, .code yJ13_bitCount_95d88 cJ13_bitCount_95d88 2 (some .int), .constantLong RJ13 314 (6148914691236517205), .constantLong RJ13 316 (3689348814741910323), .constantLong RJ13 318 (1085102592571150095), .methodLink RX12 501 yX12_ciphers, .instanceMethod yX12_ciphers, .selects RX12 yX12_ciphers yX12_ciphers, .code yX12_ciphers cX12_ciphers 3 none, .fieldLink RX12 236 "LowEnergyModel" "sealsIn" "[Z", .methodLink RX12 486 yX12_adds_, .instanceMethod yX12_adds_, .selects RX12 yX12_adds_ yX12_adds_, .code yX12_adds_ cX12_adds_ 5 none, .fieldLink RX12 260 "LowEnergyModel" "pdu" "[B", .methodLink RX12 436 yX12_adds, .instanceMethod yX12_adds, .selects RX12 yX12_adds yX12_adds, .code yX12_adds cX12_adds 5 none, .fieldLink RX12 230 "LowEnergyModel" "hasFour" "[Z", .fieldLink RX12 197 "LowEnergyModel" "opened" "[I", .fieldLink RX12 227 "LowEnergyModel" "asked" "[Z", .methodLink RX12 515 yX12_makesSession, .instanceMethod yX12_makesSession, .selects RX12 yX12_makesSession yX12_makesSession, .code yX12_makesSession cX12_makesSession 3 none, .fieldLink RX12 242 "LowEnergyModel" "hasSession" "[Z", .fieldLink RX12 218 "LowEnergyModel" "ownIv" "[B", .fieldLink RX12 215 "LowEnergyModel" "ownSkd" "[B", .methodLink RX12 512 yX12_draws, .instanceMethod yX12_draws, .selects RX12 yX12_draws yX12_draws, .code yX12_draws cX12_draws 3 none, .methodLink RX12 519 yX12_addsDraws, .instanceMethod yX12_addsDraws, .selects RX12 yX12_addsDraws yX12_addsDraws, .code yX12_addsDraws cX12_addsDraws 3 none, .fieldLink RX12 76 "LowEnergyModel" "features" "[J", .methodLink RX12 507 yX12_version, .instanceMethod yX12_version, .selects RX12 yX12_version yX12_version, .code yX12_version cX12_version 2 none, .fieldLink RX12 248 "LowEnergyModel" "toldVersion" "[Z", .constantLong RX12 510 (258), .methodLink RX12 483 yX12_bytesOf, .static yX12_bytesOf, .code yX12_bytesOf cX12_bytesOf 1 (some .int), .fieldLink RX12 130 "LowEnergyModel" "heardAt" "[I", .fieldLink RX12 470 "LowEnergyModel" "t" "I", .fieldLink RX12 145 "LowEnergyModel" "hasGood" "[Z", .fieldLink RX12 152 "LowEnergyModel" "mine" "[Z"] : List Cond) ++ (wsX120 ++ ([])))
theorem hi_M_meets_X12 : ∀ x ∈ u_ws RX12 TX12 123, x ∈ wp_M_meets := fun _ h => List.mem_cons_of_mem _ (List.mem_append_right _ (List.mem_append_left _ h))
set_option maxRecDepth 100000 in
theorem gd_M_meets_M_sendsLink_653 : GoodIn wp_M_meets (wsV RX12 653 RX12 yX12_sendsLink wp_M_sendsLink) := goodIn_app (goodIn_r _ [1, 2, 3, 4] rfl rfl) (goodIn_ca (goodIn_r _ [5, 6, 7, 8, 9, 10, 4, 11, 12, 13, 14, 15, 16, 17, 18, 19, 20, 21, 22, 23, 24, 25, 26, 27, 28, 29, 30, 31, 32, 33, 34, 35, 36, 37, 38, 39, 40, 41, 42, 43, 44, 45, 46, 47, 48, 49, 50, 51, 52, 53, 54, 55, 56, 57, 58, 59, 60, 61, 62, 63, 64, 65, 66, 67, 68, 69, 70, 71, 72, 73, 74, 75, 76, 77, 78, 79, 80, 81, 82, 83, 84, 85, 86, 87, 88, 89, 90, 91, 92, 93, 94, 95, 96, 97, 98, 99, 100] rfl rfl) (goodIn_app (goodIn_cls hi_M_meets_X12 gw_X12) (goodIn_nil)))
set_option maxRecDepth 100000 in
theorem gd_M_meets_M_isHeard_640 : GoodIn wp_M_meets (wsV RX12 640 RX12 yX12_isHeard wp_M_isHeard) := goodIn_app (goodIn_r _ [101, 102, 103, 4] rfl rfl) (goodIn_ca (goodIn_r _ [104, 22, 28, 27] rfl rfl) (goodIn_app (goodIn_cls hi_M_meets_X12 gw_X12) (goodIn_nil)))
set_option maxRecDepth 100000 in
theorem gd_M_meets_M_isGood_644 : GoodIn wp_M_meets (wsV RX12 644 RX12 yX12_isGood wp_M_isGood) := goodIn_app (goodIn_r _ [105, 106, 107, 4] rfl rfl) (goodIn_ca (goodIn_r _ [108, 109, 33, 34, 4, 35, 26, 22, 9, 10, 11, 27, 30, 31, 32, 36, 37, 38, 39] rfl rfl) (goodIn_app (goodIn_cls hi_M_meets_X12 gw_X12) (goodIn_nil)))
set_option maxRecDepth 100000 in
theorem gd_M_meets_M_takesGood_656 : GoodIn wp_M_meets (wsV RX12 656 RX12 yX12_takesGood wp_M_takesGood) := goodIn_app (goodIn_r _ [110, 111, 112, 4] rfl rfl) (goodIn_ca (goodIn_r _ [113, 114, 115, 116, 4, 117, 118, 119, 9, 10, 11, 120, 121, 122, 123, 124, 125, 126, 127, 128, 129, 130, 131, 132, 133, 134, 135, 136, 68, 69, 70, 137, 138, 139, 140, 83, 90, 84, 141, 142, 86, 87, 88, 89, 143, 144, 145, 146, 147, 148, 149, 150, 151, 152, 153, 154, 155, 156, 157, 158, 159, 160, 161, 162, 163, 164, 165, 166, 167, 168, 169, 170, 171, 172, 173, 174, 175, 176, 177, 178, 179, 180, 181, 182, 183, 184, 185, 186, 187, 188, 189, 190, 191, 192, 193, 194, 195, 196, 197, 198, 199, 200, 201, 202, 203, 204, 205, 206, 207, 208, 209, 210, 211, 212, 213, 214, 215, 216, 217, 218, 219, 220, 221, 222, 223, 224, 225, 226, 227, 228, 229, 230, 231, 232, 233, 234, 235, 236, 237, 238, 239, 240, 241, 242, 243, 244, 245, 246, 247, 248, 249, 250, 251, 252, 253, 254, 255, 256, 257, 258, 259, 260, 261, 262, 263, 264, 265, 266, 267, 268, 269, 270, 271, 272, 273, 274, 275, 276, 277, 278, 279, 280, 281, 282, 283, 284, 285, 52, 53, 54, 55, 56, 57, 58, 59, 60, 61, 62, 286, 287, 288, 289, 290, 291, 292, 293, 294, 295, 77, 296, 297, 298, 299, 300, 301, 302, 303, 304, 305, 306, 307, 308, 309, 310, 311, 312, 313, 314, 315, 316, 317, 318, 109, 319, 320, 321, 322, 96, 97, 98, 99, 100, 323, 324, 325, 326, 327, 328, 329, 330, 331, 332, 333, 334, 335, 336, 337, 338, 339, 340, 95, 341, 342, 343, 344, 82, 345, 76, 44, 346, 347, 348, 349, 350, 351, 352, 353, 354, 79, 80, 81, 355, 356, 357, 358, 359, 360, 361, 67, 51, 362, 71, 363, 364, 365, 366, 367, 368, 369, 370, 371, 372, 373, 374, 375, 376, 377, 378, 379, 380, 381, 382, 49, 72, 73, 74, 75, 50, 63, 64, 65, 66, 45, 46, 47, 48, 16, 15, 8, 383, 384, 385, 17, 78] rfl rfl) (goodIn_app (goodIn_cls hi_M_meets_X12 gw_X12) (goodIn_nil)))
set_option maxHeartbeats 4000000 in
set_option maxRecDepth 100000 in
theorem b_M_meets {p : Program} {l : Launch} {e : Env} {R : Room} {s : State} {m : MethodId} {args : Array Value} {below : List Frame} {meth : Method} {c : Code} {D : va_G} {K : Nat → ClassId} {A : Nat → Prop} {Q : State → Prop} {τ : Nat → Option Ty} {dom : List Nat} {zb zL : Nat} {zx : Nat → Int32} {zs : Nat → Nat} (hR : 10 ≤ R.frames ∧ 247 ≤ R.locals) (B : Bx p s m args c cX12_meets 4 RX12 wp_M_meets D (tysA K) A) (Z : Sk τ dom) (hz : ZL zb zL zx zs A s s.heap) (h : Nat) (q : Nat → Nat) (Y : MS τ h q) (d : Int) (P : Int) (r_d : 0 ≤ d ∧ d ≤ 1) (r_P : 0 ≤ P ∧ P ≤ 14) (σ0 : Nat → va_E) (G0 : GM K h q σ0) (hp : Fld σ0 h 12 51 (fun y => y = P)) (hend : ∀ (σ' : Nat → va_E) (lv : List (Nat × Value)) (pc : Nat), GM K h q σ' → Fr τ [(136, 0), (154, 0), (156, 0), (160, 0), (186, 0), (185, 0), (182, 0), (184, 0), (157, 0), (161, 0), (167, 0), (155, 0), (177, 0), (104, 0), (105, 0), (106, 0), (178, 0), (179, 0), (158, 0), (152, 0), (124, 0), (50, 0), (148, 0), (149, 0), (150, 0), (123, 0), (147, 0), (153, 0), (135, 0), (140, 0), (133, 0), (172, 0), (159, 0), (134, 0), (181, 0), (116, 0), (138, 0), (141, 0), (171, 0), (180, 0), (164, 0), (163, 0), (174, 0), (170, 0), (168, 0), (108, 0), (165, 0), (166, 0), (173, 0), (145, 0), (144, 0), (146, 0), (169, 0), (176, 0), (137, 0), (189, 0), (187, 0), (188, 0), (183, 0), (191, 0), (204, 0), (216, 0), (190, 0), (219, 0), (220, 0), (222, 0), (221, 0), (203, 0), (207, 0), (214, 0), (206, 0), (210, 0), (211, 0), (212, 0), (208, 0), (209, 0), (213, 0), (194, 0), (195, 0), (192, 0), (197, 0), (198, 0), (199, 0), (196, 0), (162, 0), (175, 0)] σ0 σ' → (Fld σ' h 12 51 (fun y => y ≤ P + 2)) → decode cX12_meets pc = .ok (.return_, 1) → V p l e R s m args below meth c 4 D A Q (0, 0) (fd dom σ') lv pc []) : V p l e R s m args below meth c 4 D A Q (0, 0) (fd dom σ0) [(0, .ref h), (1, .int (iI d))] 0 [] := by
  have F0 : Fr τ [(136, 0), (154, 0), (156, 0), (160, 0), (186, 0), (185, 0), (182, 0), (184, 0), (157, 0), (161, 0), (167, 0), (155, 0), (177, 0), (104, 0), (105, 0), (106, 0), (178, 0), (179, 0), (158, 0), (152, 0), (124, 0), (50, 0), (148, 0), (149, 0), (150, 0), (123, 0), (147, 0), (153, 0), (135, 0), (140, 0), (133, 0), (172, 0), (159, 0), (134, 0), (181, 0), (116, 0), (138, 0), (141, 0), (171, 0), (180, 0), (164, 0), (163, 0), (174, 0), (170, 0), (168, 0), (108, 0), (165, 0), (166, 0), (173, 0), (145, 0), (144, 0), (146, 0), (169, 0), (176, 0), (137, 0), (189, 0), (187, 0), (188, 0), (183, 0), (191, 0), (204, 0), (216, 0), (190, 0), (219, 0), (220, 0), (222, 0), (221, 0), (203, 0), (207, 0), (214, 0), (206, 0), (210, 0), (211, 0), (212, 0), (208, 0), (209, 0), (213, 0), (194, 0), (195, 0), (192, 0), (197, 0), (198, 0), (199, 0), (196, 0), (162, 0), (175, 0)] σ0 σ0 := Fr.rf
  obtain ⟨z1, z2, z3, z4, z5, h6, r7, r8, r9, r10, r11⟩ := G0.t.o
  have r12 : z4 = P := hp.use h6 (j := 51) rfl (by omega)
  have J79 : ∀ (σ_79 : Nat → va_E) (z79_2 : Int), GM K h q σ_79 → Fr τ [(136, 0), (154, 0), (156, 0), (160, 0), (186, 0), (185, 0), (182, 0), (184, 0), (157, 0), (161, 0), (167, 0), (155, 0), (177, 0), (104, 0), (105, 0), (106, 0), (178, 0), (179, 0), (158, 0), (152, 0), (124, 0), (50, 0), (148, 0), (149, 0), (150, 0), (123, 0), (147, 0), (153, 0), (135, 0), (140, 0), (133, 0), (172, 0), (159, 0), (134, 0), (181, 0), (116, 0), (138, 0), (141, 0), (171, 0), (180, 0), (164, 0), (163, 0), (174, 0), (170, 0), (168, 0), (108, 0), (165, 0), (166, 0), (173, 0), (145, 0), (144, 0), (146, 0), (169, 0), (176, 0), (137, 0), (189, 0), (187, 0), (188, 0), (183, 0), (191, 0), (204, 0), (216, 0), (190, 0), (219, 0), (220, 0), (222, 0), (221, 0), (203, 0), (207, 0), (214, 0), (206, 0), (210, 0), (211, 0), (212, 0), (208, 0), (209, 0), (213, 0), (194, 0), (195, 0), (192, 0), (197, 0), (198, 0), (199, 0), (196, 0), (162, 0), (175, 0)] σ0 σ_79 → (0 ≤ z79_2 ∧ z79_2 ≤ 1) → (Fld σ_79 h 12 51 (fun y => y = P + 1)) → V p l e R s m args below meth c 4 D A Q (0, 0) (fd dom σ_79) [(0, .ref h), (1, .int (iI d)), (2, .int (iI z79_2))] 79 [] := by
    intro σ_79 z79_2 G_79 F_79 r79_2 i79
    obtain ⟨z13, z14, z15, z16, z17, h18, r19, r20, r21, r22, r23⟩ := G_79.t.o
    have r24 : z16 = P + 1 := (i79).use h18 (j := 51) rfl (by omega)
    refine v_aload_n B dX12_meets_79 rfl rfl ?_
    refine v_iload_n B dX12_meets_80 rfl rfl ?_
    refine u_callVi B Z hz (n := 1) (As := [.int (iI z79_2)]) (rest := []) (c_M_sendsLink l D K Z _ _ _ _ h q Y z79_2 z16 ⟨by omega, by omega⟩ ⟨by omega, by omega⟩ σ_79 G_79 (Fld.mk h18 (j := 51) rfl (by omega) rfl)) gd_M_meets_M_sendsLink_653 rfl rfl rfl (by decide +kernel) ⟨Nat.le_trans (by decide +kernel) hR.1, Nat.le_trans (by decide +kernel) hR.2⟩ Y.o (clsM G_79.t) rfl rfl rfl rfl (Nat.le_of_ble_eq_true rfl) dX12_meets_81 ⟨Nat.zero_le _, Nat.zero_le _⟩ (fun v27 σ25 p26 => ?_)
    obtain ⟨G33, F34, z28, e29, r30, po31, po32⟩ := p26
    subst e29
    have F35 := F_79.call F34 (by first | rfl | simp)
    obtain ⟨z36, z37, z38, z39, z40, h41, r42, r43, r44, r45, r46⟩ := G33.t.o
    have r47 : z39 = z16 + 1 := po32.use h41 (j := 51) rfl (by omega)
    obtain ⟨f48, h49, e50⟩ := ga_48 G33.t
    obtain ⟨z51, e52, r53⟩ := e50 (z28 : Int).toNat
    have r54 := po31.use h49 e52 (by omega)
    refine v_istore_n B (lv' := [(3, .int (iI z28)), (0, .ref h), (1, .int (iI d)), (2, .int (iI z79_2))]) dX12_meets_84 rfl (by decide +kernel) rfl ?_
    refine v_aload_n B dX12_meets_85 rfl rfl ?_
    refine v_iload_n B dX12_meets_86 rfl rfl ?_
    refine v_aload_n B dX12_meets_87 rfl rfl ?_
    refine u_get B Z (C := RX12) (T := TX12) (N := 123) (ci := 12) hi_M_meets_X12 Y.o h41 rfl 39 (by decide +kernel) (List.mem_of_getElem? (i := 12) rfl) rfl dX12_meets_88 ?_
    refine v_iconst B (v := iI 4) dX12_meets_91 rfl ?_
    refine v_iload_n B dX12_meets_92 rfl rfl ?_
    refine v_imul B (v := iI (4 * d)) dX12_meets_93 ((iI_mul _ _).trans (congrArg iI (by omega))) ?_
    refine v_aload_n B dX12_meets_94 rfl rfl ?_
    refine u_get B Z (C := RX12) (T := TX12) (N := 123) (ci := 12) hi_M_meets_X12 Y.o h41 rfl 31 (by decide +kernel) (List.mem_of_getElem? (i := 14) rfl) rfl dX12_meets_95 ?_
    refine v_iload_n B dX12_meets_98 rfl rfl ?_
    obtain ⟨f55, h56, e57⟩ := ga_31 G33.t
    obtain ⟨z58, e59, r60⟩ := e57 (d : Int).toNat
    refine u_iald B Z (t0 := 0) (ym_31 Y) h56 rfl (by omega) e59 dX12_meets_99 ?_
    refine u_callVi B Z hz (n := 4) (As := [.int (iI z28), .ref (q 39), .int (iI (4 * d)), .int (iI z58)]) (rest := []) (c_M_isHeard l D K Z _ _ _ _ h q Y z28 39 8 (4 * d) z58 ⟨by omega, by omega⟩ rfl ⟨by omega, by omega⟩ ⟨by omega, by omega⟩ σ25 (G33.t) (by omega)) gd_M_meets_M_isHeard_640 rfl rfl rfl (by decide +kernel) ⟨Nat.le_trans (by decide +kernel) hR.1, Nat.le_trans (by decide +kernel) hR.2⟩ Y.o (clsM G33.t) rfl rfl rfl rfl (Nat.le_of_ble_eq_true rfl) dX12_meets_100 ⟨Nat.zero_le _, Nat.zero_le _⟩ (fun v63 σ61 p62 => ?_)
    obtain ⟨rfl, z64, e65, r66⟩ := p62
    subst e65
    refine u_if_eq B (tgt := 134) (by omega) dX12_meets_103 (by decide +kernel) (fun c67 => ?_) (fun c67 => ?_)
    · exact hend σ25 _ _ G33 F35 (Fld.mk h41 (j := 51) rfl (by omega) (show z39 ≤ P + 2 from by omega)) dX12_meets_134
    · refine v_aload_n B dX12_meets_106 rfl rfl ?_
      refine v_iload_n B dX12_meets_107 rfl rfl ?_
      refine v_aload_n B dX12_meets_108 rfl rfl ?_
      refine u_get B Z (C := RX12) (T := TX12) (N := 123) (ci := 12) hi_M_meets_X12 Y.o h41 rfl 28 (by decide +kernel) (List.mem_of_getElem? (i := 13) rfl) rfl dX12_meets_109 ?_
      refine v_iload_n B dX12_meets_112 rfl rfl ?_
      obtain ⟨f68, h69, e70⟩ := ga_28 G33.t
      obtain ⟨z71, e72, r73⟩ := e70 (d : Int).toNat
      refine u_iald B Z (t0 := 0) (ym_28 Y) h69 rfl (by omega) e72 dX12_meets_113 ?_
      refine u_callVi B Z hz (n := 2) (As := [.int (iI z28), .int (iI z71)]) (rest := []) (c_M_isGood l D K Z _ _ _ _ h q Y z28 z71 ⟨by omega, by omega⟩ ⟨by omega, by omega⟩ σ25 G33) gd_M_meets_M_isGood_644 rfl rfl rfl (by decide +kernel) ⟨Nat.le_trans (by decide +kernel) hR.1, Nat.le_trans (by decide +kernel) hR.2⟩ Y.o (clsM G33.t) rfl rfl rfl rfl (Nat.le_of_ble_eq_true rfl) dX12_meets_114 ⟨Nat.zero_le _, Nat.zero_le _⟩ (fun v76 σ74 p75 => ?_)
      obtain ⟨G80, F81, z77, e78, r79⟩ := p75
      subst e78
      have F82 := F35.call F81 (by first | rfl | simp)
      refine u_if_eq B (tgt := 134) (by omega) dX12_meets_117 (by decide +kernel) (fun c83 => ?_) (fun c83 => ?_)
      · have h84 := (F81 h _ Y.o (by first | rfl | simp)).trans (h41)
        exact hend σ74 _ _ G80 F82 (Fld.mk h84 (j := 51) rfl (by omega) (show z39 ≤ P + 2 from by omega)) dX12_meets_134
      · refine v_aload_n B dX12_meets_120 rfl rfl ?_
        refine v_iload_n B dX12_meets_121 rfl rfl ?_
        refine v_aload_n B dX12_meets_122 rfl rfl ?_
        have h85 := (F81 h _ Y.o (by first | rfl | simp)).trans (h41)
        refine u_get B Z (C := RX12) (T := TX12) (N := 123) (ci := 12) hi_M_meets_X12 Y.o h85 rfl 48 (by decide +kernel) (List.mem_of_getElem? (i := 26) rfl) rfl dX12_meets_123 ?_
        refine v_iload_n B dX12_meets_126 rfl rfl ?_
        have h86 := (F81 (q 48) _ (ym_48 Y) (by first | rfl | simp)).trans (h49)
        refine u_iald B Z (t0 := 0) (ym_48 Y) h86 rfl (by omega) e52 dX12_meets_127 ?_
        refine v_bipush B (v := iI 9) dX12_meets_128 (by decide +kernel) ?_
        refine v_isub B (v := iI (z51 + (-9))) dX12_meets_130 ((iI_sub _ _).trans (congrArg iI (by omega))) ?_
        refine u_callVv B Z hz (n := 2) (As := [.int (iI d), .int (iI (z51 + (-9)))]) (rest := []) (c_M_takesGood l D K Z _ _ _ _ h q Y d (z51 + (-9)) ⟨by omega, by omega⟩ ⟨by omega, by omega⟩ σ74 G80) gd_M_meets_M_takesGood_656 rfl rfl rfl (by decide +kernel) ⟨Nat.le_trans (by decide +kernel) hR.1, Nat.le_trans (by decide +kernel) hR.2⟩ Y.o (clsM G80.t) rfl rfl rfl rfl (Nat.le_of_ble_eq_true rfl) dX12_meets_131 ⟨Nat.zero_le _, Nat.zero_le _⟩ (fun σ87 p88 => ?_)
        obtain ⟨G90, F91⟩ := p88
        have F92 := F82.call F91 (by first | rfl | simp)
        have h93 := (F91 h _ Y.o (by first | rfl | simp)).trans (h85)
        exact hend σ87 _ _ G90 F92 (Fld.mk h93 (j := 51) rfl (by omega) (show z39 ≤ P + 2 from by omega)) dX12_meets_134
  refine v_iconst B (v := iI 1) dX12_meets_0 rfl ?_
  refine v_iload_n B dX12_meets_1 rfl rfl ?_
  refine v_isub B (v := iI ((-1) * d + 1)) dX12_meets_2 ((iI_sub _ _).trans (congrArg iI (by omega))) ?_
  refine v_istore_n B (lv' := [(2, .int (iI ((-1) * d + 1))), (0, .ref h), (1, .int (iI d))]) dX12_meets_3 rfl (by decide +kernel) rfl ?_
  refine v_aload_n B dX12_meets_4 rfl rfl ?_
  refine v_iload_n B dX12_meets_5 rfl rfl ?_
  refine u_callVi B Z hz (n := 1) (As := [.int (iI d)]) (rest := []) (c_M_sendsLink l D K Z _ _ _ _ h q Y d z4 ⟨by omega, by omega⟩ ⟨by omega, by omega⟩ σ0 G0 (Fld.mk h6 (j := 51) rfl (by omega) rfl)) gd_M_meets_M_sendsLink_653 rfl rfl rfl (by decide +kernel) ⟨Nat.le_trans (by decide +kernel) hR.1, Nat.le_trans (by decide +kernel) hR.2⟩ Y.o (clsM G0.t) rfl rfl rfl rfl (Nat.le_of_ble_eq_true rfl) dX12_meets_6 ⟨Nat.zero_le _, Nat.zero_le _⟩ (fun v96 σ94 p95 => ?_)
  obtain ⟨G102, F103, z97, e98, r99, po100, po101⟩ := p95
  subst e98
  have F104 := F0.call F103 (by first | rfl | simp)
  obtain ⟨z105, z106, z107, z108, z109, h110, r111, r112, r113, r114, r115⟩ := G102.t.o
  have r116 : z108 = z4 + 1 := po101.use h110 (j := 51) rfl (by omega)
  obtain ⟨f117, h118, e119⟩ := ga_48 G102.t
  obtain ⟨z120, e121, r122⟩ := e119 (z97 : Int).toNat
  have r123 := po100.use h118 e121 (by omega)
  refine v_istore_n B (lv' := [(3, .int (iI z97)), (2, .int (iI ((-1) * d + 1))), (0, .ref h), (1, .int (iI d))]) dX12_meets_9 rfl (by decide +kernel) rfl ?_
  refine v_aload_n B dX12_meets_10 rfl rfl ?_
  refine u_get B Z (C := RX12) (T := TX12) (N := 123) (ci := 12) hi_M_meets_X12 Y.o h110 rfl 7 (by decide +kernel) (List.mem_of_getElem? (i := 77) rfl) rfl dX12_meets_11 ?_
  refine v_iload_n B dX12_meets_14 rfl rfl ?_
  obtain ⟨f124, h125, e126⟩ := ga_7 G102.t
  obtain ⟨z127, e128, r129⟩ := e126 (((-1) * d + 1) : Int).toNat
  refine u_iald B Z (t0 := 0) (ym_7 Y) h125 rfl (by omega) e128 dX12_meets_15 ?_
  refine v_iconst B (v := iI 5) dX12_meets_16 rfl ?_
  refine u_icmp_ne B (tgt := 50) (by omega) (by omega) dX12_meets_17 (by decide +kernel) (fun c130 => ?_) (fun c130 => ?_)
  · exact hend σ94 _ _ G102 F104 (Fld.mk h110 (j := 51) rfl (by omega) (show z108 ≤ P + 2 from by omega)) dX12_meets_50
  · refine v_aload_n B dX12_meets_20 rfl rfl ?_
    refine u_get B Z (C := RX12) (T := TX12) (N := 123) (ci := 12) hi_M_meets_X12 Y.o h110 rfl 42 (by decide +kernel) (List.mem_of_getElem? (i := 386) rfl) rfl dX12_meets_21 ?_
    refine v_iload_n B dX12_meets_24 rfl rfl ?_
    obtain ⟨f131, h132, e133⟩ := ga_42 G102.t
    obtain ⟨z134, e135, r136⟩ := e133 (((-1) * d + 1) : Int).toNat
    refine u_zald B Z (t0 := 3) (ym_42 Y) h132 rfl (by omega) e135 dX12_meets_25 ?_
    refine u_if_eq B (tgt := 50) (by omega) dX12_meets_26 (by decide +kernel) (fun c137 => ?_) (fun c137 => ?_)
    · exact hend σ94 _ _ G102 F104 (Fld.mk h110 (j := 51) rfl (by omega) (show z108 ≤ P + 2 from by omega)) dX12_meets_50
    · refine v_aload_n B dX12_meets_29 rfl rfl ?_
      refine v_iload_n B dX12_meets_30 rfl rfl ?_
      refine v_aload_n B dX12_meets_31 rfl rfl ?_
      refine u_get B Z (C := RX12) (T := TX12) (N := 123) (ci := 12) hi_M_meets_X12 Y.o h110 rfl 39 (by decide +kernel) (List.mem_of_getElem? (i := 12) rfl) rfl dX12_meets_32 ?_
      refine v_iconst B (v := iI 4) dX12_meets_35 rfl ?_
      refine v_iload_n B dX12_meets_36 rfl rfl ?_
      refine v_imul B (v := iI ((-4) * d + 4)) dX12_meets_37 ((iI_mul _ _).trans (congrArg iI (by omega))) ?_
      refine v_aload_n B dX12_meets_38 rfl rfl ?_
      refine u_get B Z (C := RX12) (T := TX12) (N := 123) (ci := 12) hi_M_meets_X12 Y.o h110 rfl 31 (by decide +kernel) (List.mem_of_getElem? (i := 14) rfl) rfl dX12_meets_39 ?_
      refine v_iload_n B dX12_meets_42 rfl rfl ?_
      obtain ⟨f138, h139, e140⟩ := ga_31 G102.t
      obtain ⟨z141, e142, r143⟩ := e140 (((-1) * d + 1) : Int).toNat
      refine u_iald B Z (t0 := 0) (ym_31 Y) h139 rfl (by omega) e142 dX12_meets_43 ?_
      refine u_callVi B Z hz (n := 4) (As := [.int (iI z97), .ref (q 39), .int (iI ((-4) * d + 4)), .int (iI z141)]) (rest := []) (c_M_isHeard l D K Z _ _ _ _ h q Y z97 39 8 ((-4) * d + 4) z141 ⟨by omega, by omega⟩ rfl ⟨by omega, by omega⟩ ⟨by omega, by omega⟩ σ94 (G102.t) (by omega)) gd_M_meets_M_isHeard_640 rfl rfl rfl (by decide +kernel) ⟨Nat.le_trans (by decide +kernel) hR.1, Nat.le_trans (by decide +kernel) hR.2⟩ Y.o (clsM G102.t) rfl rfl rfl rfl (Nat.le_of_ble_eq_true rfl) dX12_meets_44 ⟨Nat.zero_le _, Nat.zero_le _⟩ (fun v146 σ144 p145 => ?_)
      obtain ⟨rfl, z147, e148, r149⟩ := p145
      subst e148
      refine u_if_ne B (tgt := 51) (by omega) dX12_meets_47 (by decide +kernel) (fun c150 => ?_) (fun c150 => ?_)
      · refine v_aload_n B dX12_meets_51 rfl rfl ?_
        refine v_iload_n B dX12_meets_52 rfl rfl ?_
        refine v_aload_n B dX12_meets_53 rfl rfl ?_
        refine u_get B Z (C := RX12) (T := TX12) (N := 123) (ci := 12) hi_M_meets_X12 Y.o h110 rfl 28 (by decide +kernel) (List.mem_of_getElem? (i := 13) rfl) rfl dX12_meets_54 ?_
        refine v_iload_n B dX12_meets_57 rfl rfl ?_
        obtain ⟨f151, h152, e153⟩ := ga_28 G102.t
        obtain ⟨z154, e155, r156⟩ := e153 (((-1) * d + 1) : Int).toNat
        refine u_iald B Z (t0 := 0) (ym_28 Y) h152 rfl (by omega) e155 dX12_meets_58 ?_
        refine u_callVi B Z hz (n := 2) (As := [.int (iI z97), .int (iI z154)]) (rest := []) (c_M_isGood l D K Z _ _ _ _ h q Y z97 z154 ⟨by omega, by omega⟩ ⟨by omega, by omega⟩ σ94 G102) gd_M_meets_M_isGood_644 rfl rfl rfl (by decide +kernel) ⟨Nat.le_trans (by decide +kernel) hR.1, Nat.le_trans (by decide +kernel) hR.2⟩ Y.o (clsM G102.t) rfl rfl rfl rfl (Nat.le_of_ble_eq_true rfl) dX12_meets_59 ⟨Nat.zero_le _, Nat.zero_le _⟩ (fun v159 σ157 p158 => ?_)
        obtain ⟨G163, F164, z160, e161, r162⟩ := p158
        subst e161
        have F165 := F104.call F164 (by first | rfl | simp)
        refine u_if_eq B (tgt := 79) (by omega) dX12_meets_62 (by decide +kernel) (fun c166 => ?_) (fun c166 => ?_)
        · refine v_lv [2, 3, 1] rfl ?_
          have h167 := (F164 h _ Y.o (by first | rfl | simp)).trans (h110)
          exact J79 σ157 ((-1) * d + 1) G163 F165 ⟨by omega, by omega⟩ ((Fld.mk h167 (j := 51) rfl (by omega) (show z108 = P + 1 from by omega)))
        · refine v_aload_n B dX12_meets_65 rfl rfl ?_
          refine v_iload_n B dX12_meets_66 rfl rfl ?_
          refine v_aload_n B dX12_meets_67 rfl rfl ?_
          have h168 := (F164 h _ Y.o (by first | rfl | simp)).trans (h110)
          refine u_get B Z (C := RX12) (T := TX12) (N := 123) (ci := 12) hi_M_meets_X12 Y.o h168 rfl 48 (by decide +kernel) (List.mem_of_getElem? (i := 26) rfl) rfl dX12_meets_68 ?_
          refine v_iload_n B dX12_meets_71 rfl rfl ?_
          have h169 := (F164 (q 48) _ (ym_48 Y) (by first | rfl | simp)).trans (h118)
          refine u_iald B Z (t0 := 0) (ym_48 Y) h169 rfl (by omega) e121 dX12_meets_72 ?_
          refine v_bipush B (v := iI 9) dX12_meets_73 (by decide +kernel) ?_
          refine v_isub B (v := iI (z120 + (-9))) dX12_meets_75 ((iI_sub _ _).trans (congrArg iI (by omega))) ?_
          refine u_callVv B Z hz (n := 2) (As := [.int (iI ((-1) * d + 1)), .int (iI (z120 + (-9)))]) (rest := []) (c_M_takesGood l D K Z _ _ _ _ h q Y ((-1) * d + 1) (z120 + (-9)) ⟨by omega, by omega⟩ ⟨by omega, by omega⟩ σ157 G163) gd_M_meets_M_takesGood_656 rfl rfl rfl (by decide +kernel) ⟨Nat.le_trans (by decide +kernel) hR.1, Nat.le_trans (by decide +kernel) hR.2⟩ Y.o (clsM G163.t) rfl rfl rfl rfl (Nat.le_of_ble_eq_true rfl) dX12_meets_76 ⟨Nat.zero_le _, Nat.zero_le _⟩ (fun σ170 p171 => ?_)
          obtain ⟨G173, F174⟩ := p171
          have F175 := F165.call F174 (by first | rfl | simp)
          refine v_lv [2, 3, 1] rfl ?_
          have h176 := (F174 h _ Y.o (by first | rfl | simp)).trans (h168)
          exact J79 σ170 ((-1) * d + 1) G173 F175 ⟨by omega, by omega⟩ ((Fld.mk h176 (j := 51) rfl (by omega) (show z108 = P + 1 from by omega)))
      · exact hend σ94 _ _ G102 F104 (Fld.mk h110 (j := 51) rfl (by omega) (show z108 ≤ P + 2 from by omega)) dX12_meets_50
set_option maxRecDepth 100000 in
theorem c_M_meets (l : Launch) (D : va_G) (K : Nat → ClassId) {τ : Nat → Option Ty} {dom : List Nat} (Z : Sk τ dom) (zb zL : Nat) (zx : Nat → Int32) (zs : Nat → Nat) (h : Nat) (q : Nat → Nat) (Y : MS τ h q) (d : Int) (P : Int) (r_d : 0 ≤ d ∧ d ≤ 1) (r_P : 0 ≤ P ∧ P ≤ 14) (σ0 : Nat → va_E) (G0 : GM K h q σ0) (hp : Fld σ0 h 12 51 (fun y => y = P)) : MZ l yX12_meets wp_M_meets ({ frames := 10, cells := 0, slots := 0, locals := 247 }) D (tysA K) [.ref h, .int (iI d)] (fd dom σ0) zb zL zx zs (Qv D (fun σ' => GM K h q σ' ∧ Fr τ [(136, 0), (154, 0), (156, 0), (160, 0), (186, 0), (185, 0), (182, 0), (184, 0), (157, 0), (161, 0), (167, 0), (155, 0), (177, 0), (104, 0), (105, 0), (106, 0), (178, 0), (179, 0), (158, 0), (152, 0), (124, 0), (50, 0), (148, 0), (149, 0), (150, 0), (123, 0), (147, 0), (153, 0), (135, 0), (140, 0), (133, 0), (172, 0), (159, 0), (134, 0), (181, 0), (116, 0), (138, 0), (141, 0), (171, 0), (180, 0), (164, 0), (163, 0), (174, 0), (170, 0), (168, 0), (108, 0), (165, 0), (166, 0), (173, 0), (145, 0), (144, 0), (146, 0), (169, 0), (176, 0), (137, 0), (189, 0), (187, 0), (188, 0), (183, 0), (191, 0), (204, 0), (216, 0), (190, 0), (219, 0), (220, 0), (222, 0), (221, 0), (203, 0), (207, 0), (214, 0), (206, 0), (210, 0), (211, 0), (212, 0), (208, 0), (209, 0), (213, 0), (194, 0), (195, 0), (192, 0), (197, 0), (198, 0), (199, 0), (196, 0), (162, 0), (175, 0)] σ0 σ' ∧ (Fld σ' h 12 51 (fun y => y ≤ P + 2))) (fun σ' => fd dom σ')) 0 0 := by
  refine mz_of (cc := cX12_meets) (maxL := 4) (ret := none) (by decide +kernel) rfl (Nat.le_of_ble_eq_true rfl) ?_
  intro p e s m below meth c A B hr hlk _ hz
  exact b_M_meets ⟨Nat.le_refl _, Nat.le_refl _⟩ B Z hz h q Y d P r_d r_P σ0 G0 hp (fun σ' lv pc G F hP hd => v_vret B hr hlk σ' ⟨G, F, hP⟩ rfl (Nat.le_refl _) (Nat.le_refl _) hd)

def wp_M_initiates : List Cond := .code yX12_initiates cX12_initiates 10 none :: (([.fieldLink RX12 176 "LowEnergyModel" "sending" "[B", .fieldLink RX12 60 "LowEnergyModel" "address" "[J", .methodLink RX12 432 yX12_number, .static yX12_number, .initialized RX12, .code yX12_number cX12_number 6 none, .fieldLink RX12 67 "LowEnergyModel" "wanted" "[J", .fieldLink RX12 142 "LowEnergyModel" "access" "[B", .methodLink RX12 29 yX12_copy, .static yX12_copy, .code yX12_copy cX12_copy 6 none, .fieldLink RX12 109 "LowEnergyModel" "init" "[I", .fieldLink RX12 51 "LowEnergyModel" "interval" "[I", .fieldLink RX12 103 "LowEnergyModel" "timeout" "[I", .fieldLink RX12 70 "LowEnergyModel" "map" "[J", .fieldLink RX12 106 "LowEnergyModel" "hop" "[I", .fieldLink RX12 633 "LowEnergyModel" "FIRST_ACCESS" "[B", .constant RX12 636 (5592405), .methodLink RX12 466 yX12_sends, .instanceMethod yX12_sends, .selects RX12 yX12_sends yX12_sends, .code yX12_sends cX12_sends 11 (some .int), .fieldLink RX12 164 "LowEnergyModel" "air" "[B", .fieldLink RX12 94 "LowEnergyModel" "lost" "[I", .fieldLink RX12 97 "LowEnergyModel" "noises" "[I", .fieldLink RX12 429 "LowEnergyModel" "packets" "I", .fieldLink RX12 167 "LowEnergyModel" "airMany" "[I", .fieldLink RX12 170 "LowEnergyModel" "airChannel" "[I", .fieldLink RX12 173 "LowEnergyModel" "airLost" "[Z", .fieldLink RX12 100 "LowEnergyModel" "noise" "[I", .methodLink RX12 425 yX12_whiten, .static yX12_whiten, .code yX12_whiten cX12_whiten 7 none, .methodLink RX12 422 yX12_crcByte, .static yX12_crcByte, .code yX12_crcByte cX12_crcByte 4 (some .int), .methodLink RX12 418 yX12_crc, .static yX12_crc, .code yX12_crc cX12_crc 7 (some .int), .constant RX12 417 (16777215), .methodLink RX12 640 yX12_isHeard, .instanceMethod yX12_isHeard, .selects RX12 yX12_isHeard yX12_isHeard, .code yX12_isHeard cX12_isHeard 7 (some .boolean), .methodLink RX12 644 yX12_isGood, .instanceMethod yX12_isGood, .selects RX12 yX12_isGood yX12_isGood, .code yX12_isGood cX12_isGood 6 (some .boolean), .fieldLink RX12 179 "LowEnergyModel" "got" "[B", .methodLink RX12 494 yX12_number_, .static yX12_number_, .code yX12_number_ cX12_number_ 6 (some .long), .methodLink RX12 489 yX12_two, .static yX12_two, .code yX12_two cX12_two 2 (some .int), .methodLink RX12 497 yX12_isMap, .static yX12_isMap, .code yX12_isMap cX12_isMap 2 (some .boolean), .constantLong RX12 396 (137438953472), .methodLink RX12 398 yJ13_bitCount_95d88, .static yJ13_bitCount_95d88, .initialized RJ13, .code yJ13_bitCount_95d88 cJ13_bitCount_95d88 2 (some .int), .constantLong RJ13 314 (6148914691236517205), .constantLong RJ13 316 (3689348814741910323), .constantLong RJ13 318 (1085102592571150095), .fieldLink RX12 64 "LowEnergyModel" "peer" "[J", .methodLink RX12 650 yX12_begins, .instanceMethod yX12_begins, .selects RX12 yX12_begins yX12_begins, .code yX12_begins cX12_begins 3 none, .methodLink RX12 391 yX12_fresh, .instanceMethod yX12_fresh, .selects RX12 yX12_fresh yX12_fresh, .code yX12_fresh cX12_fresh 2 none, .fieldLink RX12 118 "LowEnergyModel" "channel" "[I", .fieldLink RX12 133 "LowEnergyModel" "reason" "[I", .fieldLink RX12 136 "LowEnergyModel" "ending" "[I", .fieldLink RX12 145 "LowEnergyModel" "hasGood" "[Z", .fieldLink RX12 149 "LowEnergyModel" "mapWaits" "[Z", .fieldLink RX12 182 "LowEnergyModel" "currentSort" "[I", .fieldLink RX12 185 "LowEnergyModel" "currentMany" "[I", .fieldLink RX12 188 "LowEnergyModel" "currentOp" "[I", .fieldLink RX12 191 "LowEnergyModel" "controls" "[I", .fieldLink RX12 224 "LowEnergyModel" "held" "[Z", .fieldLink RX12 227 "LowEnergyModel" "asked" "[Z", .fieldLink RX12 230 "LowEnergyModel" "hasFour" "[Z", .fieldLink RX12 233 "LowEnergyModel" "sealsOut" "[Z", .fieldLink RX12 236 "LowEnergyModel" "sealsIn" "[Z", .fieldLink RX12 194 "LowEnergyModel" "out" "[I", .fieldLink RX12 197 "LowEnergyModel" "opened" "[I", .fieldLink RX12 239 "LowEnergyModel" "isSecure" "[Z", .fieldLink RX12 242 "LowEnergyModel" "hasSession" "[Z", .fieldLink RX12 248 "LowEnergyModel" "toldVersion" "[Z", .fieldLink RX12 275 "LowEnergyModel" "messages" "[I", .fieldLink RX12 278 "LowEnergyModel" "taken" "[I", .fieldLink RX12 287 "LowEnergyModel" "begun" "[Z", .fieldLink RX12 296 "LowEnergyModel" "step" "[I", .fieldLink RX12 332 "LowEnergyModel" "mtu" "[I", .fieldLink RX12 338 "LowEnergyModel" "parts" "[I", .fieldLink RX12 362 "LowEnergyModel" "waits30" "[Z", .fieldLink RX12 365 "LowEnergyModel" "job" "[I", .fieldLink RX12 45 "LowEnergyModel" "state" "[I", .fieldLink RX12 121 "LowEnergyModel" "anchor" "[I", .fieldLink RX12 470 "LowEnergyModel" "t" "I", .fieldLink RX12 112 "LowEnergyModel" "event" "[I", .fieldLink RX12 115 "LowEnergyModel" "u" "[I", .fieldLink RX12 124 "LowEnergyModel" "sn" "[I", .fieldLink RX12 127 "LowEnergyModel" "nesn" "[I", .fieldLink RX12 130 "LowEnergyModel" "heardAt" "[I", .methodLink RX12 504 yX12_complete_, .instanceMethod yX12_complete_, .selects RX12 yX12_complete_ yX12_complete_, .code yX12_complete_ cX12_complete_ 6 none, .fieldLink RX12 10 "LowEnergyModel" "tape" "[B", .methodLink RX12 409 yX12_complete, .instanceMethod yX12_complete, .selects RX12 yX12_complete yX12_complete, .code yX12_complete cX12_complete 11 none, .fieldLink RX12 155 "LowEnergyModel" "kept" "[I", .fieldLink RX12 158 "LowEnergyModel" "keptMany" "[I", .methodLink RX12 404 Lib.Math.min.name, .static Lib.Math.min.name, .initialized "java/lang/Math", .code Lib.Math.min.name Lib.Math.min.code 2 (some .int), .fieldLink RX12 161 "LowEnergyModel" "notKept" "[I", .methodLink RX12 480 yX12_draw, .instanceMethod yX12_draw, .selects RX12 yX12_draw yX12_draw, .code yX12_draw cX12_draw 2 (some .int), .fieldLink RX12 48 "LowEnergyModel" "x" "[I", .constant RX12 395 (1103515245)] : List Cond) ++ (wsX120 ++ ([])))
theorem hi_M_initiates_X12 : ∀ x ∈ u_ws RX12 TX12 123, x ∈ wp_M_initiates := fun _ h => List.mem_cons_of_mem _ (List.mem_append_right _ (List.mem_append_left _ h))
set_option maxRecDepth 100000 in
theorem gd_M_initiates_M_numberP_432 : GoodIn wp_M_initiates (va_wsS RX12 432 yX12_number wp_M_numberP) := goodIn_app (goodIn_r _ [3, 4, 5] rfl rfl) (goodIn_ca (goodIn_r _ [6] rfl rfl) (goodIn_nil))
set_option maxRecDepth 100000 in
theorem gd_M_initiates_M_copy_29 : GoodIn wp_M_initiates (va_wsS RX12 29 yX12_copy wp_M_copy) := goodIn_app (goodIn_r _ [9, 10, 5] rfl rfl) (goodIn_ca (goodIn_r _ [11] rfl rfl) (goodIn_nil))
set_option maxRecDepth 100000 in
theorem gd_M_initiates_M_sendsS_466 : GoodIn wp_M_initiates (wsV RX12 466 RX12 yX12_sends wp_M_sendsS) := goodIn_app (goodIn_r _ [19, 20, 21, 5] rfl rfl) (goodIn_ca (goodIn_r _ [22, 1, 23, 9, 10, 5, 11, 24, 25, 26, 27, 28, 29, 30, 31, 32, 33, 34, 35, 36, 37, 38, 39, 40] rfl rfl) (goodIn_app (goodIn_cls hi_M_initiates_X12 gw_X12) (goodIn_nil)))
set_option maxRecDepth 100000 in
theorem gd_M_initiates_M_isHeardS_640 : GoodIn wp_M_initiates (wsV RX12 640 RX12 yX12_isHeard wp_M_isHeardS) := goodIn_app (goodIn_r _ [41, 42, 43, 5] rfl rfl) (goodIn_ca (goodIn_r _ [44, 23, 29, 28] rfl rfl) (goodIn_app (goodIn_cls hi_M_initiates_X12 gw_X12) (goodIn_nil)))
set_option maxRecDepth 100000 in
theorem gd_M_initiates_M_isGood_644 : GoodIn wp_M_initiates (wsV RX12 644 RX12 yX12_isGood wp_M_isGood) := goodIn_app (goodIn_r _ [45, 46, 47, 5] rfl rfl) (goodIn_ca (goodIn_r _ [48, 49, 34, 35, 5, 36, 27, 23, 9, 10, 11, 28, 31, 32, 33, 37, 38, 39, 40] rfl rfl) (goodIn_app (goodIn_cls hi_M_initiates_X12 gw_X12) (goodIn_nil)))
set_option maxRecDepth 100000 in
theorem gd_M_initiates_M_numberG_494 : GoodIn wp_M_initiates (va_wsS RX12 494 yX12_number_ wp_M_numberG) := goodIn_app (goodIn_r _ [50, 51, 5] rfl rfl) (goodIn_ca (goodIn_r _ [52] rfl rfl) (goodIn_nil))
set_option maxRecDepth 100000 in
theorem gd_M_initiates_M_two_489 : GoodIn wp_M_initiates (va_wsS RX12 489 yX12_two wp_M_two) := goodIn_app (goodIn_r _ [53, 54, 5] rfl rfl) (goodIn_ca (goodIn_r _ [55] rfl rfl) (goodIn_nil))
set_option maxRecDepth 100000 in
theorem gd_M_initiates_M_isMap_497 : GoodIn wp_M_initiates (va_wsS RX12 497 yX12_isMap wp_M_isMap) := goodIn_app (goodIn_r _ [56, 57, 5] rfl rfl) (goodIn_ca (goodIn_r _ [58, 59, 60, 61, 62, 63, 64, 65, 66] rfl rfl) (goodIn_nil))
set_option maxRecDepth 100000 in
theorem gd_M_initiates_M_begins_650 : GoodIn wp_M_initiates (wsV RX12 650 RX12 yX12_begins wp_M_begins) := goodIn_app (goodIn_r _ [68, 69, 70, 5] rfl rfl) (goodIn_ca (goodIn_r _ [71, 72, 73, 74, 5, 75, 76, 77, 78, 79, 80, 81, 82, 83, 84, 85, 86, 87, 88, 89, 90, 91, 92, 93, 94, 95, 96, 97, 98, 99, 100, 101, 102, 103, 104, 105, 13, 106, 107, 108, 109, 110, 111, 112, 113, 114, 115, 116, 117, 118, 119, 120, 121, 122, 123, 124, 125, 126] rfl rfl) (goodIn_app (goodIn_cls hi_M_initiates_X12 gw_X12) (goodIn_nil)))
set_option maxRecDepth 100000 in
theorem gd_M_initiates_M_draw_480 : GoodIn wp_M_initiates (wsV RX12 480 RX12 yX12_draw wp_M_draw) := goodIn_app (goodIn_r _ [127, 128, 129, 5] rfl rfl) (goodIn_ca (goodIn_r _ [130, 131, 132] rfl rfl) (goodIn_app (goodIn_cls hi_M_initiates_X12 gw_X12) (goodIn_nil)))
set_option maxHeartbeats 4000000 in
set_option maxRecDepth 100000 in
theorem b_M_initiates {p : Program} {l : Launch} {e : Env} {R : Room} {s : State} {m : MethodId} {args : Array Value} {below : List Frame} {meth : Method} {c : Code} {D : va_G} {K : Nat → ClassId} {A : Nat → Prop} {Q : State → Prop} {τ : Nat → Option Ty} {dom : List Nat} {zb zL : Nat} {zx : Nat → Int32} {zs : Nat → Nat} (hR : 4 ≤ R.frames ∧ 92 ≤ R.locals) (B : Bx p s m args c cX12_initiates 10 RX12 wp_M_initiates D (tysA K) A) (Z : Sk τ dom) (hz : ZL zb zL zx zs A s s.heap) (h : Nat) (q : Nat → Nat) (Y : MS τ h q) (d : Int) (x2 : Int) (P : Int) (r_d : 0 ≤ d ∧ d ≤ 1) (r_x2 : -2147483648 ≤ x2 ∧ x2 ≤ 2147483647) (r_P : 0 ≤ P ∧ P ≤ 15) (σ0 : Nat → va_E) (G0 : GM K h q σ0) (hp : Fld σ0 h 12 51 (fun y => y = P)) (hS : At σ0 (q 7) (d : Int).toNat (3) (3)) (hend : ∀ (σ' : Nat → va_E) (lv : List (Nat × Value)) (pc : Nat), GM K h q σ' → Fr τ [(131, 0), (136, 0), (137, 0), (140, 0), (141, 0), (154, 0), (155, 0), (156, 0), (157, 0), (168, 0), (169, 0), (170, 0), (171, 0), (172, 0), (158, 0), (159, 0), (173, 0), (174, 0), (176, 0), (185, 0), (186, 0), (189, 0), (192, 0), (204, 0), (206, 0), (214, 0), (216, 0), (107, 0), (132, 0), (129, 0), (130, 0), (133, 0), (134, 0), (135, 0), (145, 0), (144, 0), (146, 0), (113, 0), (108, 0), (139, 0), (128, 0), (152, 0), (124, 0), (50, 0), (148, 0), (149, 0), (150, 0), (123, 0), (147, 0), (153, 0), (109, 0), (126, 0), (115, 0), (127, 0)] σ0 σ' → (Fld σ' h 12 51 (fun y => y ≤ P + 1)) → decode cX12_initiates pc = .ok (.return_, 1) → V p l e R s m args below meth c 10 D A Q (0, 0) (fd dom σ') lv pc []) : V p l e R s m args below meth c 10 D A Q (0, 0) (fd dom σ0) [(0, .ref h), (1, .int (iI d)), (2, .int (iI x2))] 0 [] := by
  have F0 : Fr τ [(131, 0), (136, 0), (137, 0), (140, 0), (141, 0), (154, 0), (155, 0), (156, 0), (157, 0), (168, 0), (169, 0), (170, 0), (171, 0), (172, 0), (158, 0), (159, 0), (173, 0), (174, 0), (176, 0), (185, 0), (186, 0), (189, 0), (192, 0), (204, 0), (206, 0), (214, 0), (216, 0), (107, 0), (132, 0), (129, 0), (130, 0), (133, 0), (134, 0), (135, 0), (145, 0), (144, 0), (146, 0), (113, 0), (108, 0), (139, 0), (128, 0), (152, 0), (124, 0), (50, 0), (148, 0), (149, 0), (150, 0), (123, 0), (147, 0), (153, 0), (109, 0), (126, 0), (115, 0), (127, 0)] σ0 σ0 := Fr.rf
  obtain ⟨z1, z2, z3, z4, z5, h6, r7, r8, r9, r10, r11⟩ := G0.t.o
  have r12 : z4 = P := hp.use h6 (j := 51) rfl (by omega)
  obtain ⟨f13, h14, e15⟩ := ga_7 G0.t
  obtain ⟨z16, e17, r18⟩ := e15 (d : Int).toNat
  have r19 := hS.use h14 e17 (by omega)
  have J64 : ∀ (k64 : Nat) (σ_64 : Nat → va_E) (z64_3 : Int) (z64_4 : Int), (2147483648 - z64_4).toNat ≤ k64 → GM K h q σ_64 → Fr τ [(131, 0), (136, 0), (137, 0), (140, 0), (141, 0), (154, 0), (155, 0), (156, 0), (157, 0), (168, 0), (169, 0), (170, 0), (171, 0), (172, 0), (158, 0), (159, 0), (173, 0), (174, 0), (176, 0), (185, 0), (186, 0), (189, 0), (192, 0), (204, 0), (206, 0), (214, 0), (216, 0), (107, 0), (132, 0), (129, 0), (130, 0), (133, 0), (134, 0), (135, 0), (145, 0), (144, 0), (146, 0), (113, 0), (108, 0), (139, 0), (128, 0), (152, 0), (124, 0), (50, 0), (148, 0), (149, 0), (150, 0), (123, 0), (147, 0), (153, 0), (109, 0), (126, 0), (115, 0), (127, 0)] σ0 σ_64 → (σ_64 h = .inr (12, fsM q (iI z1) (iI z2) (iI z3) (iI z4) (iI z5))) → (0 ≤ z64_3 ∧ z64_3 ≤ 1) → (0 ≤ z64_4 ∧ z64_4 ≤ 3) → V p l e R s m args below meth c 10 D A Q (0, 0) (fd dom σ_64) [(0, .ref h), (1, .int (iI d)), (2, .int (iI x2)), (3, .int (iI z64_3)), (4, .int (iI z64_4))] 64 [] := by
    intro k64
    induction k64 with
    | zero => intro σ_64 z64_3 z64_4 m64 G_64 F_64 hc64_h r64_3 r64_4; omega
    | succ k64 IH64 =>
      intro σ_64 z64_3 z64_4 m64 G_64 F_64 hc64_h r64_3 r64_4
      refine v_iload B dX12_initiates_64 rfl ?_
      refine v_iconst B (v := iI 3) dX12_initiates_66 rfl ?_
      refine u_icmp_ge B (tgt := 96) (by omega) (by omega) dX12_initiates_67 (by decide +kernel) (fun c20 => ?_) (fun c20 => ?_)
      · refine v_aload_n B dX12_initiates_96 rfl rfl ?_
        refine u_get B Z (C := RX12) (T := TX12) (N := 123) (ci := 12) hi_M_initiates_X12 Y.o hc64_h rfl 52 (by decide +kernel) (List.mem_of_getElem? (i := 1) rfl) rfl dX12_initiates_97 ?_
        refine v_bipush B (v := iI 6) dX12_initiates_100 (by decide +kernel) ?_
        refine v_aload_n B dX12_initiates_102 rfl rfl ?_
        refine u_get B Z (C := RX12) (T := TX12) (N := 123) (ci := 12) hi_M_initiates_X12 Y.o hc64_h rfl 12 (by decide +kernel) (List.mem_of_getElem? (i := 2) rfl) rfl dX12_initiates_103 ?_
        refine v_iload_n B dX12_initiates_106 rfl rfl ?_
        obtain ⟨f21, h22⟩ := ga_12 G_64.t
        obtain ⟨yy24, e25, r26⟩ := lI_any (f21 (d : Int).toNat)
        refine u_lald B Z (t0 := 1) (ym_12 Y) h22 rfl (by omega) e25 dX12_initiates_107 ?_
        refine v_bipush B (v := iI 6) dX12_initiates_108 (by decide +kernel) ?_
        refine u_callSv B Z hz (n := 4) (As := [.ref (q 52), .int (iI 6), .long (lI yy24), .int (iI 6)]) (rest := []) (c_M_numberP l D K Z _ _ _ _ h q Y 52 40 6 yy24 6 rfl ⟨by omega, by omega⟩ ⟨by omega, by omega⟩ ⟨by omega, by omega⟩ σ_64 G_64 (by omega)) gd_M_initiates_M_numberP_432 rfl rfl rfl (by decide +kernel) ⟨Nat.le_trans (by decide +kernel) hR.1, Nat.le_trans (by decide +kernel) hR.2⟩ rfl rfl (Nat.le_of_ble_eq_true rfl) dX12_initiates_110 ⟨Nat.zero_le _, Nat.zero_le _⟩ (fun σ27 p28 => ?_)
        obtain ⟨G30, F31⟩ := p28
        have F32 := F_64.call F31 (by first | rfl | simp)
        refine v_aload_n B dX12_initiates_113 rfl rfl ?_
        have h33 := (F31 h _ Y.o (by first | rfl | simp)).trans (hc64_h)
        refine u_get B Z (C := RX12) (T := TX12) (N := 123) (ci := 12) hi_M_initiates_X12 Y.o h33 rfl 52 (by decide +kernel) (List.mem_of_getElem? (i := 1) rfl) rfl dX12_initiates_114 ?_
        refine v_bipush B (v := iI 12) dX12_initiates_117 (by decide +kernel) ?_
        refine v_aload_n B dX12_initiates_119 rfl rfl ?_
        refine u_get B Z (C := RX12) (T := TX12) (N := 123) (ci := 12) hi_M_initiates_X12 Y.o h33 rfl 14 (by decide +kernel) (List.mem_of_getElem? (i := 7) rfl) rfl dX12_initiates_120 ?_
        refine v_iload_n B dX12_initiates_123 rfl rfl ?_
        obtain ⟨f34, h35⟩ := ga_14 G30.t
        obtain ⟨yy37, e38, r39⟩ := lI_any (f34 (d : Int).toNat)
        refine u_lald B Z (t0 := 1) (ym_14 Y) h35 rfl (by omega) e38 dX12_initiates_124 ?_
        refine v_bipush B (v := iI 6) dX12_initiates_125 (by decide +kernel) ?_
        refine u_callSv B Z hz (n := 4) (As := [.ref (q 52), .int (iI 12), .long (lI yy37), .int (iI 6)]) (rest := []) (c_M_numberP l D K Z _ _ _ _ h q Y 52 40 12 yy37 6 rfl ⟨by omega, by omega⟩ ⟨by omega, by omega⟩ ⟨by omega, by omega⟩ σ27 G30 (by omega)) gd_M_initiates_M_numberP_432 rfl rfl rfl (by decide +kernel) ⟨Nat.le_trans (by decide +kernel) hR.1, Nat.le_trans (by decide +kernel) hR.2⟩ rfl rfl (Nat.le_of_ble_eq_true rfl) dX12_initiates_127 ⟨Nat.zero_le _, Nat.zero_le _⟩ (fun σ40 p41 => ?_)
        obtain ⟨G43, F44⟩ := p41
        have F45 := F32.call F44 (by first | rfl | simp)
        refine v_aload_n B dX12_initiates_130 rfl rfl ?_
        have h46 := (F44 h _ Y.o (by first | rfl | simp)).trans (h33)
        refine u_get B Z (C := RX12) (T := TX12) (N := 123) (ci := 12) hi_M_initiates_X12 Y.o h46 rfl 39 (by decide +kernel) (List.mem_of_getElem? (i := 8) rfl) rfl dX12_initiates_131 ?_
        refine v_iconst B (v := iI 4) dX12_initiates_134 rfl ?_
        refine v_iload_n B dX12_initiates_135 rfl rfl ?_
        refine v_imul B (v := iI (4 * d)) dX12_initiates_136 ((iI_mul _ _).trans (congrArg iI (by omega))) ?_
        refine v_aload_n B dX12_initiates_137 rfl rfl ?_
        refine u_get B Z (C := RX12) (T := TX12) (N := 123) (ci := 12) hi_M_initiates_X12 Y.o h46 rfl 52 (by decide +kernel) (List.mem_of_getElem? (i := 1) rfl) rfl dX12_initiates_138 ?_
        refine v_bipush B (v := iI 18) dX12_initiates_141 (by decide +kernel) ?_
        refine v_iconst B (v := iI 4) dX12_initiates_143 rfl ?_
        refine u_callSv B Z hz (n := 5) (As := [.ref (q 39), .int (iI (4 * d)), .ref (q 52), .int (iI 18), .int (iI 4)]) (rest := []) (c_M_copy l D K Z _ _ _ _ h q Y 39 8 (4 * d) 52 40 18 4 rfl ⟨by omega, by omega⟩ rfl ⟨by omega, by omega⟩ ⟨by omega, by omega⟩ σ40 G43 (by omega)) gd_M_initiates_M_copy_29 rfl rfl rfl (by decide +kernel) ⟨Nat.le_trans (by decide +kernel) hR.1, Nat.le_trans (by decide +kernel) hR.2⟩ rfl rfl (Nat.le_of_ble_eq_true rfl) dX12_initiates_144 ⟨Nat.zero_le _, Nat.zero_le _⟩ (fun σ47 p48 => ?_)
        obtain ⟨G50, F51⟩ := p48
        have F52 := F45.call F51 (by first | rfl | simp)
        refine v_aload_n B dX12_initiates_147 rfl rfl ?_
        have h53 := (F51 h _ Y.o (by first | rfl | simp)).trans (h46)
        refine u_get B Z (C := RX12) (T := TX12) (N := 123) (ci := 12) hi_M_initiates_X12 Y.o h53 rfl 52 (by decide +kernel) (List.mem_of_getElem? (i := 1) rfl) rfl dX12_initiates_148 ?_
        refine v_bipush B (v := iI 22) dX12_initiates_151 (by decide +kernel) ?_
        refine v_aload_n B dX12_initiates_153 rfl rfl ?_
        refine u_get B Z (C := RX12) (T := TX12) (N := 123) (ci := 12) hi_M_initiates_X12 Y.o h53 rfl 28 (by decide +kernel) (List.mem_of_getElem? (i := 12) rfl) rfl dX12_initiates_154 ?_
        refine v_iload_n B dX12_initiates_157 rfl rfl ?_
        obtain ⟨f54, h55, e56⟩ := ga_28 G50.t
        obtain ⟨z57, e58, r59⟩ := e56 (d : Int).toNat
        refine u_iald B Z (t0 := 0) (ym_28 Y) h55 rfl (by omega) e58 dX12_initiates_158 ?_
        refine v_i2l B (v := lI z57) dX12_initiates_159 (lI_i (by omega)) ?_
        refine v_iconst B (v := iI 3) dX12_initiates_160 rfl ?_
        refine u_callSv B Z hz (n := 4) (As := [.ref (q 52), .int (iI 22), .long (lI z57), .int (iI 3)]) (rest := []) (c_M_numberP l D K Z _ _ _ _ h q Y 52 40 22 z57 3 rfl ⟨by omega, by omega⟩ ⟨by omega, by omega⟩ ⟨by omega, by omega⟩ σ47 G50 (by omega)) gd_M_initiates_M_numberP_432 rfl rfl rfl (by decide +kernel) ⟨Nat.le_trans (by decide +kernel) hR.1, Nat.le_trans (by decide +kernel) hR.2⟩ rfl rfl (Nat.le_of_ble_eq_true rfl) dX12_initiates_161 ⟨Nat.zero_le _, Nat.zero_le _⟩ (fun σ60 p61 => ?_)
        obtain ⟨G63, F64⟩ := p61
        have F65 := F52.call F64 (by first | rfl | simp)
        refine v_aload_n B dX12_initiates_164 rfl rfl ?_
        have h66 := (F64 h _ Y.o (by first | rfl | simp)).trans (h53)
        refine u_get B Z (C := RX12) (T := TX12) (N := 123) (ci := 12) hi_M_initiates_X12 Y.o h66 rfl 52 (by decide +kernel) (List.mem_of_getElem? (i := 1) rfl) rfl dX12_initiates_165 ?_
        refine v_bipush B (v := iI 25) dX12_initiates_168 (by decide +kernel) ?_
        refine v_aload_n B dX12_initiates_170 rfl rfl ?_
        refine u_get B Z (C := RX12) (T := TX12) (N := 123) (ci := 12) hi_M_initiates_X12 Y.o h66 rfl 9 (by decide +kernel) (List.mem_of_getElem? (i := 13) rfl) rfl dX12_initiates_171 ?_
        refine v_iload_n B dX12_initiates_174 rfl rfl ?_
        obtain ⟨f67, h68, e69⟩ := ga_9 G63.t
        obtain ⟨z70, e71, r72⟩ := e69 (d : Int).toNat
        refine u_iald B Z (t0 := 0) (ym_9 Y) h68 rfl (by omega) e71 dX12_initiates_175 ?_
        refine v_i2l B (v := lI z70) dX12_initiates_176 (lI_i (by omega)) ?_
        refine v_iconst B (v := iI 2) dX12_initiates_177 rfl ?_
        refine u_callSv B Z hz (n := 4) (As := [.ref (q 52), .int (iI 25), .long (lI z70), .int (iI 2)]) (rest := []) (c_M_numberP l D K Z _ _ _ _ h q Y 52 40 25 z70 2 rfl ⟨by omega, by omega⟩ ⟨by omega, by omega⟩ ⟨by omega, by omega⟩ σ60 G63 (by omega)) gd_M_initiates_M_numberP_432 rfl rfl rfl (by decide +kernel) ⟨Nat.le_trans (by decide +kernel) hR.1, Nat.le_trans (by decide +kernel) hR.2⟩ rfl rfl (Nat.le_of_ble_eq_true rfl) dX12_initiates_178 ⟨Nat.zero_le _, Nat.zero_le _⟩ (fun σ73 p74 => ?_)
        obtain ⟨G76, F77⟩ := p74
        have F78 := F65.call F77 (by first | rfl | simp)
        refine v_aload_n B dX12_initiates_181 rfl rfl ?_
        have h79 := (F77 h _ Y.o (by first | rfl | simp)).trans (h66)
        refine u_get B Z (C := RX12) (T := TX12) (N := 123) (ci := 12) hi_M_initiates_X12 Y.o h79 rfl 52 (by decide +kernel) (List.mem_of_getElem? (i := 1) rfl) rfl dX12_initiates_182 ?_
        refine v_bipush B (v := iI 27) dX12_initiates_185 (by decide +kernel) ?_
        refine v_aload_n B dX12_initiates_187 rfl rfl ?_
        refine u_get B Z (C := RX12) (T := TX12) (N := 123) (ci := 12) hi_M_initiates_X12 Y.o h79 rfl 26 (by decide +kernel) (List.mem_of_getElem? (i := 14) rfl) rfl dX12_initiates_188 ?_
        refine v_iload_n B dX12_initiates_191 rfl rfl ?_
        obtain ⟨f80, h81, e82⟩ := ga_26 G76.t
        obtain ⟨z83, e84, r85⟩ := e82 (d : Int).toNat
        refine u_iald B Z (t0 := 0) (ym_26 Y) h81 rfl (by omega) e84 dX12_initiates_192 ?_
        refine v_i2l B (v := lI z83) dX12_initiates_193 (lI_i (by omega)) ?_
        refine v_iconst B (v := iI 2) dX12_initiates_194 rfl ?_
        refine u_callSv B Z hz (n := 4) (As := [.ref (q 52), .int (iI 27), .long (lI z83), .int (iI 2)]) (rest := []) (c_M_numberP l D K Z _ _ _ _ h q Y 52 40 27 z83 2 rfl ⟨by omega, by omega⟩ ⟨by omega, by omega⟩ ⟨by omega, by omega⟩ σ73 G76 (by omega)) gd_M_initiates_M_numberP_432 rfl rfl rfl (by decide +kernel) ⟨Nat.le_trans (by decide +kernel) hR.1, Nat.le_trans (by decide +kernel) hR.2⟩ rfl rfl (Nat.le_of_ble_eq_true rfl) dX12_initiates_195 ⟨Nat.zero_le _, Nat.zero_le _⟩ (fun σ86 p87 => ?_)
        obtain ⟨G89, F90⟩ := p87
        have F91 := F78.call F90 (by first | rfl | simp)
        refine v_aload_n B dX12_initiates_198 rfl rfl ?_
        have h92 := (F90 h _ Y.o (by first | rfl | simp)).trans (h79)
        refine u_get B Z (C := RX12) (T := TX12) (N := 123) (ci := 12) hi_M_initiates_X12 Y.o h92 rfl 52 (by decide +kernel) (List.mem_of_getElem? (i := 1) rfl) rfl dX12_initiates_199 ?_
        refine v_bipush B (v := iI 29) dX12_initiates_202 (by decide +kernel) ?_
        refine v_aload_n B dX12_initiates_204 rfl rfl ?_
        refine u_get B Z (C := RX12) (T := TX12) (N := 123) (ci := 12) hi_M_initiates_X12 Y.o h92 rfl 15 (by decide +kernel) (List.mem_of_getElem? (i := 15) rfl) rfl dX12_initiates_205 ?_
        refine v_iload_n B dX12_initiates_208 rfl rfl ?_
        obtain ⟨f93, h94⟩ := ga_15 G89.t
        obtain ⟨yy96, e97, r98⟩ := lI_any (f93 (d : Int).toNat)
        refine u_lald B Z (t0 := 1) (ym_15 Y) h94 rfl (by omega) e97 dX12_initiates_209 ?_
        refine v_iconst B (v := iI 5) dX12_initiates_210 rfl ?_
        refine u_callSv B Z hz (n := 4) (As := [.ref (q 52), .int (iI 29), .long (lI yy96), .int (iI 5)]) (rest := []) (c_M_numberP l D K Z _ _ _ _ h q Y 52 40 29 yy96 5 rfl ⟨by omega, by omega⟩ ⟨by omega, by omega⟩ ⟨by omega, by omega⟩ σ86 G89 (by omega)) gd_M_initiates_M_numberP_432 rfl rfl rfl (by decide +kernel) ⟨Nat.le_trans (by decide +kernel) hR.1, Nat.le_trans (by decide +kernel) hR.2⟩ rfl rfl (Nat.le_of_ble_eq_true rfl) dX12_initiates_211 ⟨Nat.zero_le _, Nat.zero_le _⟩ (fun σ99 p100 => ?_)
        obtain ⟨G102, F103⟩ := p100
        have F104 := F91.call F103 (by first | rfl | simp)
        refine v_aload_n B dX12_initiates_214 rfl rfl ?_
        have h105 := (F103 h _ Y.o (by first | rfl | simp)).trans (h92)
        refine u_get B Z (C := RX12) (T := TX12) (N := 123) (ci := 12) hi_M_initiates_X12 Y.o h105 rfl 52 (by decide +kernel) (List.mem_of_getElem? (i := 1) rfl) rfl dX12_initiates_215 ?_
        refine v_bipush B (v := iI 34) dX12_initiates_218 (by decide +kernel) ?_
        refine v_aload_n B dX12_initiates_220 rfl rfl ?_
        refine u_get B Z (C := RX12) (T := TX12) (N := 123) (ci := 12) hi_M_initiates_X12 Y.o h105 rfl 27 (by decide +kernel) (List.mem_of_getElem? (i := 16) rfl) rfl dX12_initiates_221 ?_
        refine v_iload_n B dX12_initiates_224 rfl rfl ?_
        obtain ⟨f106, h107, e108⟩ := ga_27 G102.t
        obtain ⟨z109, e110, r111⟩ := e108 (d : Int).toNat
        refine u_iald B Z (t0 := 0) (ym_27 Y) h107 rfl (by omega) e110 dX12_initiates_225 ?_
        refine v_i2l B (v := lI z109) dX12_initiates_226 (lI_i (by omega)) ?_
        refine v_iconst B (v := iI 1) dX12_initiates_227 rfl ?_
        refine u_callSv B Z hz (n := 4) (As := [.ref (q 52), .int (iI 34), .long (lI z109), .int (iI 1)]) (rest := []) (c_M_numberP l D K Z _ _ _ _ h q Y 52 40 34 z109 1 rfl ⟨by omega, by omega⟩ ⟨by omega, by omega⟩ ⟨by omega, by omega⟩ σ99 G102 (by omega)) gd_M_initiates_M_numberP_432 rfl rfl rfl (by decide +kernel) ⟨Nat.le_trans (by decide +kernel) hR.1, Nat.le_trans (by decide +kernel) hR.2⟩ rfl rfl (Nat.le_of_ble_eq_true rfl) dX12_initiates_228 ⟨Nat.zero_le _, Nat.zero_le _⟩ (fun σ112 p113 => ?_)
        obtain ⟨G115, F116⟩ := p113
        have F117 := F104.call F116 (by first | rfl | simp)
        refine v_aload_n B dX12_initiates_231 rfl rfl ?_
        refine v_iload_n B dX12_initiates_232 rfl rfl ?_
        refine u_gets4 B hz (List.mem_of_getElem? (i := 17) rfl) dX12_initiates_233 ?_
        refine v_iconst B (v := iI 0) dX12_initiates_236 rfl ?_
        refine v_ldcw B (v := iI 5592405) (u_ci (List.mem_of_getElem? (i := 18) rfl) (by decide +kernel)) dX12_initiates_237 ?_
        refine v_iload_n B dX12_initiates_240 rfl rfl ?_
        refine v_iconst B (v := iI 5) dX12_initiates_241 rfl ?_
        refine v_bipush B (v := iI 29) dX12_initiates_242 (by decide +kernel) ?_
        have h118 := (F116 h _ Y.o (by first | rfl | simp)).trans (h105)
        refine u_callVi B Z hz (n := 7) (As := [.int (iI d), .ref (zs 4), .int (iI 0), .int (iI 5592405), .int (iI x2), .int (iI 5), .int (iI 29)]) (rest := []) (c_M_sendsS l D K Z _ _ _ _ h q Y d 0 5592405 x2 5 29 z4 ⟨by omega, by omega⟩ ⟨by omega, by omega⟩ ⟨by omega, by omega⟩ ⟨by omega, by omega⟩ ⟨by omega, by omega⟩ ⟨by omega, by omega⟩ ⟨by omega, by omega⟩ σ112 G115 (Fld.mk h118 (j := 51) rfl (by omega) rfl)) gd_M_initiates_M_sendsS_466 rfl rfl rfl (by decide +kernel) ⟨Nat.le_trans (by decide +kernel) hR.1, Nat.le_trans (by decide +kernel) hR.2⟩ Y.o (clsM G115.t) rfl rfl rfl rfl (Nat.le_of_ble_eq_true rfl) dX12_initiates_244 ⟨Nat.zero_le _, Nat.zero_le _⟩ (fun v121 σ119 p120 => ?_)
        obtain ⟨G127, F128, z122, e123, r124, po125, po126⟩ := p120
        subst e123
        have F129 := F117.call F128 (by first | rfl | simp)
        obtain ⟨z130, z131, z132, z133, z134, h135, r136, r137, r138, r139, r140⟩ := G127.t.o
        have r141 : z133 = z4 + 1 := po126.use h135 (j := 51) rfl (by omega)
        obtain ⟨f142, h143, e144⟩ := ga_48 G127.t
        obtain ⟨z145, e146, r147⟩ := e144 (z122 : Int).toNat
        have r148 := po125.use h143 e146 (by omega)
        refine v_istore B (lv' := [(4, .int (iI z122)), (0, .ref h), (1, .int (iI d)), (2, .int (iI x2)), (3, .int (iI z64_3))]) dX12_initiates_247 (by decide +kernel) rfl ?_
        refine v_aload_n B dX12_initiates_249 rfl rfl ?_
        refine v_iload B dX12_initiates_250 rfl ?_
        refine u_gets4 B hz (List.mem_of_getElem? (i := 17) rfl) dX12_initiates_252 ?_
        refine v_iconst B (v := iI 0) dX12_initiates_255 rfl ?_
        refine v_iload_n B dX12_initiates_256 rfl rfl ?_
        refine u_callVi B Z hz (n := 4) (As := [.int (iI z122), .ref (zs 4), .int (iI 0), .int (iI x2)]) (rest := []) (c_M_isHeardS l D K Z _ _ _ _ h q Y z122 0 x2 ⟨by omega, by omega⟩ ⟨by omega, by omega⟩ ⟨by omega, by omega⟩ σ119 (G127.t)) gd_M_initiates_M_isHeardS_640 rfl rfl rfl (by decide +kernel) ⟨Nat.le_trans (by decide +kernel) hR.1, Nat.le_trans (by decide +kernel) hR.2⟩ Y.o (clsM G127.t) rfl rfl rfl rfl (Nat.le_of_ble_eq_true rfl) dX12_initiates_257 ⟨Nat.zero_le _, Nat.zero_le _⟩ (fun v151 σ149 p150 => ?_)
        obtain ⟨rfl, z152, e153, r154⟩ := p150
        subst e153
        refine u_if_eq B (tgt := 275) (by omega) dX12_initiates_260 (by decide +kernel) (fun c155 => ?_) (fun c155 => ?_)
        · exact hend σ119 _ _ G127 F129 (Fld.mk h135 (j := 51) rfl (by omega) (show z133 ≤ P + 1 from by omega)) dX12_initiates_275
        · refine v_aload_n B dX12_initiates_263 rfl rfl ?_
          refine v_iload B dX12_initiates_264 rfl ?_
          refine v_ldcw B (v := iI 5592405) (u_ci (List.mem_of_getElem? (i := 18) rfl) (by decide +kernel)) dX12_initiates_266 ?_
          refine u_callVi B Z hz (n := 2) (As := [.int (iI z122), .int (iI 5592405)]) (rest := []) (c_M_isGood l D K Z _ _ _ _ h q Y z122 5592405 ⟨by omega, by omega⟩ ⟨by omega, by omega⟩ σ119 G127) gd_M_initiates_M_isGood_644 rfl rfl rfl (by decide +kernel) ⟨Nat.le_trans (by decide +kernel) hR.1, Nat.le_trans (by decide +kernel) hR.2⟩ Y.o (clsM G127.t) rfl rfl rfl rfl (Nat.le_of_ble_eq_true rfl) dX12_initiates_269 ⟨Nat.zero_le _, Nat.zero_le _⟩ (fun v158 σ156 p157 => ?_)
          obtain ⟨G162, F163, z159, e160, r161⟩ := p157
          subst e160
          have F164 := F129.call F163 (by first | rfl | simp)
          refine u_if_ne B (tgt := 276) (by omega) dX12_initiates_272 (by decide +kernel) (fun c165 => ?_) (fun c165 => ?_)
          · refine v_aload_n B dX12_initiates_276 rfl rfl ?_
            have h166 := (F163 h _ Y.o (by first | rfl | simp)).trans (h135)
            refine u_get B Z (C := RX12) (T := TX12) (N := 123) (ci := 12) hi_M_initiates_X12 Y.o h166 rfl 53 (by decide +kernel) (List.mem_of_getElem? (i := 49) rfl) rfl dX12_initiates_277 ?_
            refine v_iconst B (v := iI 4) dX12_initiates_280 rfl ?_
            obtain ⟨f167, h168, e169⟩ := ga_53 G162.t
            obtain ⟨z170, e171, r172⟩ := e169 (4 : Int).toNat
            refine u_bald B Z (t0 := 2) (ym_53 Y) h168 rfl (by omega) e171 dX12_initiates_281 ?_
            refine v_iconst B (v := iI 5) dX12_initiates_282 rfl ?_
            refine u_icmp_ne B (tgt := 319) (by omega) (by omega) dX12_initiates_283 (by decide +kernel) (fun c173 => ?_) (fun c173 => ?_)
            · exact hend σ156 _ _ G162 F164 (Fld.mk h166 (j := 51) rfl (by omega) (show z133 ≤ P + 1 from by omega)) dX12_initiates_319
            · refine v_aload_n B dX12_initiates_286 rfl rfl ?_
              refine u_get B Z (C := RX12) (T := TX12) (N := 123) (ci := 12) hi_M_initiates_X12 Y.o h166 rfl 48 (by decide +kernel) (List.mem_of_getElem? (i := 27) rfl) rfl dX12_initiates_287 ?_
              refine v_iload B dX12_initiates_290 rfl ?_
              have h174 := (F163 (q 48) _ (ym_48 Y) (by first | rfl | simp)).trans (h143)
              refine u_iald B Z (t0 := 0) (ym_48 Y) h174 rfl (by omega) e146 dX12_initiates_292 ?_
              refine v_bipush B (v := iI 38) dX12_initiates_293 (by decide +kernel) ?_
              refine u_icmp_ne B (tgt := 319) (by omega) (by omega) dX12_initiates_295 (by decide +kernel) (fun c175 => ?_) (fun c175 => ?_)
              · exact hend σ156 _ _ G162 F164 (Fld.mk h166 (j := 51) rfl (by omega) (show z133 ≤ P + 1 from by omega)) dX12_initiates_319
              · refine v_aload_n B dX12_initiates_298 rfl rfl ?_
                refine u_get B Z (C := RX12) (T := TX12) (N := 123) (ci := 12) hi_M_initiates_X12 Y.o h166 rfl 53 (by decide +kernel) (List.mem_of_getElem? (i := 49) rfl) rfl dX12_initiates_299 ?_
                refine v_bipush B (v := iI 12) dX12_initiates_302 (by decide +kernel) ?_
                refine v_bipush B (v := iI 6) dX12_initiates_304 (by decide +kernel) ?_
                refine u_callSl B Z hz (n := 3) (As := [.ref (q 53), .int (iI 12), .int (iI 6)]) (rest := []) (c_M_numberG l D K Z _ _ _ _ h q Y 53 40 12 6 rfl ⟨by omega, by omega⟩ ⟨by omega, by omega⟩ σ156 (G162.t) (by omega)) gd_M_initiates_M_numberG_494 rfl rfl rfl (by decide +kernel) ⟨Nat.le_trans (by decide +kernel) hR.1, Nat.le_trans (by decide +kernel) hR.2⟩ rfl rfl (Nat.le_of_ble_eq_true rfl) dX12_initiates_306 ⟨Nat.zero_le _, Nat.zero_le _⟩ (fun v178 σ176 p177 => ?_)
                obtain ⟨rfl, yy179, e180, r181⟩ := p177
                subst e180
                refine v_aload_n B dX12_initiates_309 rfl rfl ?_
                refine u_get B Z (C := RX12) (T := TX12) (N := 123) (ci := 12) hi_M_initiates_X12 Y.o h166 rfl 12 (by decide +kernel) (List.mem_of_getElem? (i := 2) rfl) rfl dX12_initiates_310 ?_
                refine v_iload_n B dX12_initiates_313 rfl rfl ?_
                have h182 := (F163 (q 12) _ (ym_12 Y) (by first | rfl | simp)).trans ((F128 (q 12) _ (ym_12 Y) (by first | rfl | simp)).trans ((F116 (q 12) _ (ym_12 Y) (by first | rfl | simp)).trans ((F103 (q 12) _ (ym_12 Y) (by first | rfl | simp)).trans ((F90 (q 12) _ (ym_12 Y) (by first | rfl | simp)).trans ((F77 (q 12) _ (ym_12 Y) (by first | rfl | simp)).trans ((F64 (q 12) _ (ym_12 Y) (by first | rfl | simp)).trans ((F51 (q 12) _ (ym_12 Y) (by first | rfl | simp)).trans ((F44 (q 12) _ (ym_12 Y) (by first | rfl | simp)).trans ((F31 (q 12) _ (ym_12 Y) (by first | rfl | simp)).trans (h22))))))))))
                obtain ⟨yy183, e184, r185⟩ := lI_any (f21 (z64_3 : Int).toNat)
                refine u_lald B Z (t0 := 1) (ym_12 Y) h182 rfl (by omega) e184 dX12_initiates_314 ?_
                obtain ⟨z186, e187, r188⟩ := iI_any (lg_cmp (lI yy179) (lI yy183))
                refine v_lcmp B (v := iI z186) dX12_initiates_315 e187 ?_
                refine u_if_eq B (tgt := 320) (by omega) dX12_initiates_316 (by decide +kernel) (fun c189 => ?_) (fun c189 => ?_)
                · refine v_aload_n B dX12_initiates_320 rfl rfl ?_
                  refine u_get B Z (C := RX12) (T := TX12) (N := 123) (ci := 12) hi_M_initiates_X12 Y.o h166 rfl 53 (by decide +kernel) (List.mem_of_getElem? (i := 49) rfl) rfl dX12_initiates_321 ?_
                  refine v_bipush B (v := iI 25) dX12_initiates_324 (by decide +kernel) ?_
                  refine u_callSi B Z hz (n := 2) (As := [.ref (q 53), .int (iI 25)]) (rest := []) (c_M_two l D K Z _ _ _ _ h q Y 53 40 25 rfl ⟨by omega, by omega⟩ σ156 (G162.t) (by omega)) gd_M_initiates_M_two_489 rfl rfl rfl (by decide +kernel) ⟨Nat.le_trans (by decide +kernel) hR.1, Nat.le_trans (by decide +kernel) hR.2⟩ rfl rfl (Nat.le_of_ble_eq_true rfl) dX12_initiates_326 ⟨Nat.zero_le _, Nat.zero_le _⟩ (fun v192 σ190 p191 => ?_)
                  obtain ⟨rfl, z193, e194, r195⟩ := p191
                  subst e194
                  refine v_istore B (lv' := [(5, .int (iI z193)), (4, .int (iI z122)), (0, .ref h), (1, .int (iI d)), (2, .int (iI x2)), (3, .int (iI z64_3))]) dX12_initiates_329 (by decide +kernel) rfl ?_
                  refine v_aload_n B dX12_initiates_331 rfl rfl ?_
                  refine u_get B Z (C := RX12) (T := TX12) (N := 123) (ci := 12) hi_M_initiates_X12 Y.o h166 rfl 53 (by decide +kernel) (List.mem_of_getElem? (i := 49) rfl) rfl dX12_initiates_332 ?_
                  refine v_bipush B (v := iI 27) dX12_initiates_335 (by decide +kernel) ?_
                  refine u_callSi B Z hz (n := 2) (As := [.ref (q 53), .int (iI 27)]) (rest := []) (c_M_two l D K Z _ _ _ _ h q Y 53 40 27 rfl ⟨by omega, by omega⟩ σ156 (G162.t) (by omega)) gd_M_initiates_M_two_489 rfl rfl rfl (by decide +kernel) ⟨Nat.le_trans (by decide +kernel) hR.1, Nat.le_trans (by decide +kernel) hR.2⟩ rfl rfl (Nat.le_of_ble_eq_true rfl) dX12_initiates_337 ⟨Nat.zero_le _, Nat.zero_le _⟩ (fun v198 σ196 p197 => ?_)
                  obtain ⟨rfl, z199, e200, r201⟩ := p197
                  subst e200
                  refine v_istore B (lv' := [(6, .int (iI z199)), (5, .int (iI z193)), (4, .int (iI z122)), (0, .ref h), (1, .int (iI d)), (2, .int (iI x2)), (3, .int (iI z64_3))]) dX12_initiates_340 (by decide +kernel) rfl ?_
                  refine v_aload_n B dX12_initiates_342 rfl rfl ?_
                  refine u_get B Z (C := RX12) (T := TX12) (N := 123) (ci := 12) hi_M_initiates_X12 Y.o h166 rfl 53 (by decide +kernel) (List.mem_of_getElem? (i := 49) rfl) rfl dX12_initiates_343 ?_
                  refine v_bipush B (v := iI 29) dX12_initiates_346 (by decide +kernel) ?_
                  refine v_iconst B (v := iI 5) dX12_initiates_348 rfl ?_
                  refine u_callSl B Z hz (n := 3) (As := [.ref (q 53), .int (iI 29), .int (iI 5)]) (rest := []) (c_M_numberG l D K Z _ _ _ _ h q Y 53 40 29 5 rfl ⟨by omega, by omega⟩ ⟨by omega, by omega⟩ σ156 (G162.t) (by omega)) gd_M_initiates_M_numberG_494 rfl rfl rfl (by decide +kernel) ⟨Nat.le_trans (by decide +kernel) hR.1, Nat.le_trans (by decide +kernel) hR.2⟩ rfl rfl (Nat.le_of_ble_eq_true rfl) dX12_initiates_349 ⟨Nat.zero_le _, Nat.zero_le _⟩ (fun v204 σ202 p203 => ?_)
                  obtain ⟨rfl, yy205, e206, r207⟩ := p203
                  subst e206
                  refine v_lstore B (lv' := [(7, .long (lI yy205)), (6, .int (iI z199)), (5, .int (iI z193)), (4, .int (iI z122)), (0, .ref h), (1, .int (iI d)), (2, .int (iI x2)), (3, .int (iI z64_3))]) dX12_initiates_352 (by decide +kernel) rfl ?_
                  refine v_aload_n B dX12_initiates_354 rfl rfl ?_
                  refine u_get B Z (C := RX12) (T := TX12) (N := 123) (ci := 12) hi_M_initiates_X12 Y.o h166 rfl 53 (by decide +kernel) (List.mem_of_getElem? (i := 49) rfl) rfl dX12_initiates_355 ?_
                  refine v_bipush B (v := iI 34) dX12_initiates_358 (by decide +kernel) ?_
                  obtain ⟨z208, e209, r210⟩ := e169 (34 : Int).toNat
                  refine u_bald B Z (t0 := 2) (ym_53 Y) h168 rfl (by omega) e209 dX12_initiates_360 ?_
                  refine v_sipush B (v := iI 255) dX12_initiates_361 (by decide +kernel) ?_
                  obtain ⟨z211, e212, r213⟩ := iI_and z208 (c := 255) (by decide) (by decide)
                  refine v_iand B (v := iI z211) dX12_initiates_364 e212 ?_
                  refine v_istore B (lv' := [(9, .int (iI z211)), (7, .long (lI yy205)), (6, .int (iI z199)), (5, .int (iI z193)), (4, .int (iI z122)), (0, .ref h), (1, .int (iI d)), (2, .int (iI x2)), (3, .int (iI z64_3))]) dX12_initiates_365 (by decide +kernel) rfl ?_
                  refine v_iload B dX12_initiates_367 rfl ?_
                  refine v_iconst B (v := iI 2) dX12_initiates_369 rfl ?_
                  refine u_icmp_lt B (tgt := 416) (by omega) (by omega) dX12_initiates_370 (by decide +kernel) (fun c214 => ?_) (fun c214 => ?_)
                  · exact hend σ156 _ _ G162 F164 (Fld.mk h166 (j := 51) rfl (by omega) (show z133 ≤ P + 1 from by omega)) dX12_initiates_416
                  · refine v_iload B dX12_initiates_373 rfl ?_
                    refine v_bipush B (v := iI 50) dX12_initiates_375 (by decide +kernel) ?_
                    refine u_icmp_gt B (tgt := 416) (by omega) (by omega) dX12_initiates_377 (by decide +kernel) (fun c215 => ?_) (fun c215 => ?_)
                    · exact hend σ156 _ _ G162 F164 (Fld.mk h166 (j := 51) rfl (by omega) (show z133 ≤ P + 1 from by omega)) dX12_initiates_416
                    · refine v_iload B dX12_initiates_380 rfl ?_
                      refine v_bipush B (v := iI 10) dX12_initiates_382 (by decide +kernel) ?_
                      refine u_icmp_lt B (tgt := 416) (by omega) (by omega) dX12_initiates_384 (by decide +kernel) (fun c216 => ?_) (fun c216 => ?_)
                      · exact hend σ156 _ _ G162 F164 (Fld.mk h166 (j := 51) rfl (by omega) (show z133 ≤ P + 1 from by omega)) dX12_initiates_416
                      · refine v_iload B dX12_initiates_387 rfl ?_
                        refine v_sipush B (v := iI 2000) dX12_initiates_389 (by decide +kernel) ?_
                        refine u_icmp_gt B (tgt := 416) (by omega) (by omega) dX12_initiates_392 (by decide +kernel) (fun c217 => ?_) (fun c217 => ?_)
                        · exact hend σ156 _ _ G162 F164 (Fld.mk h166 (j := 51) rfl (by omega) (show z133 ≤ P + 1 from by omega)) dX12_initiates_416
                        · refine v_lload B dX12_initiates_395 rfl ?_
                          refine u_callSi B Z hz (n := 1) (As := [.long (lI yy205)]) (rest := []) (c_M_isMap l D K Z _ _ _ _ h q Y yy205 ⟨by omega, by omega⟩ σ156 (G162.t)) gd_M_initiates_M_isMap_497 rfl rfl rfl (by decide +kernel) ⟨Nat.le_trans (by decide +kernel) hR.1, Nat.le_trans (by decide +kernel) hR.2⟩ rfl rfl (Nat.le_of_ble_eq_true rfl) dX12_initiates_397 ⟨Nat.zero_le _, Nat.zero_le _⟩ (fun v220 σ218 p219 => ?_)
                          obtain ⟨rfl, z221, e222, r223, po224⟩ := p219
                          subst e222
                          refine u_if_eq B (tgt := 416) (by omega) dX12_initiates_400 (by decide +kernel) (fun c225 => ?_) (fun c225 => ?_)
                          · exact hend σ156 _ _ G162 F164 (Fld.mk h166 (j := 51) rfl (by omega) (show z133 ≤ P + 1 from by omega)) dX12_initiates_416
                          · refine v_iload B dX12_initiates_403 rfl ?_
                            refine v_iconst B (v := iI 5) dX12_initiates_405 rfl ?_
                            refine u_icmp_lt B (tgt := 416) (by omega) (by omega) dX12_initiates_406 (by decide +kernel) (fun c226 => ?_) (fun c226 => ?_)
                            · exact hend σ156 _ _ G162 F164 (Fld.mk h166 (j := 51) rfl (by omega) (show z133 ≤ P + 1 from by omega)) dX12_initiates_416
                            · refine v_iload B dX12_initiates_409 rfl ?_
                              refine v_bipush B (v := iI 16) dX12_initiates_411 (by decide +kernel) ?_
                              refine u_icmp_le B (tgt := 417) (by omega) (by omega) dX12_initiates_413 (by decide +kernel) (fun c227 => ?_) (fun c227 => ?_)
                              · refine v_aload_n B dX12_initiates_417 rfl rfl ?_
                                refine u_get B Z (C := RX12) (T := TX12) (N := 123) (ci := 12) hi_M_initiates_X12 Y.o h166 rfl 9 (by decide +kernel) (List.mem_of_getElem? (i := 13) rfl) rfl dX12_initiates_418 ?_
                                refine v_iload_n B dX12_initiates_421 rfl rfl ?_
                                refine v_iload B dX12_initiates_422 rfl ?_
                                have h228 := (F163 (q 9) _ (ym_9 Y) (by first | rfl | simp)).trans ((F128 (q 9) _ (ym_9 Y) (by first | rfl | simp)).trans ((F116 (q 9) _ (ym_9 Y) (by first | rfl | simp)).trans ((F103 (q 9) _ (ym_9 Y) (by first | rfl | simp)).trans ((F90 (q 9) _ (ym_9 Y) (by first | rfl | simp)).trans ((F77 (q 9) _ (ym_9 Y) (by first | rfl | simp)).trans (h68))))))
                                refine u_iast B Z (t0 := 0) (x := iI z193) (ym_9 Y) h228 rfl (by omega) dX12_initiates_424 (fun σ229 h230 n231 => ?_)
                                have e232 := el_upd (z := z193) e69 ⟨by omega, by omega⟩ (z64_3 : Int).toNat
                                have F233 := F164.put (ym_9 Y) (by simp) n231
                                have G234 := gp_9 Y G162 ⟨_, h230, e232⟩ n231
                                refine v_aload_n B dX12_initiates_425 rfl rfl ?_
                                have h235 := (n231 h (ne_ty Y.o (ym_9 Y) (by decide))).trans (h166)
                                refine u_get B Z (C := RX12) (T := TX12) (N := 123) (ci := 12) hi_M_initiates_X12 Y.o h235 rfl 26 (by decide +kernel) (List.mem_of_getElem? (i := 14) rfl) rfl dX12_initiates_426 ?_
                                refine v_iload_n B dX12_initiates_429 rfl rfl ?_
                                refine v_iload B dX12_initiates_430 rfl ?_
                                have h236 := (n231 (q 26) (ne_ty (ym_26 Y) (ym_9 Y) (by decide))).trans ((F163 (q 26) _ (ym_26 Y) (by first | rfl | simp)).trans ((F128 (q 26) _ (ym_26 Y) (by first | rfl | simp)).trans ((F116 (q 26) _ (ym_26 Y) (by first | rfl | simp)).trans ((F103 (q 26) _ (ym_26 Y) (by first | rfl | simp)).trans ((F90 (q 26) _ (ym_26 Y) (by first | rfl | simp)).trans (h81))))))
                                refine u_iast B Z (t0 := 0) (x := iI z199) (ym_26 Y) h236 rfl (by omega) dX12_initiates_432 (fun σ237 h238 n239 => ?_)
                                have e240 := el_upd (z := z199) e82 ⟨by omega, by omega⟩ (z64_3 : Int).toNat
                                have F241 := F233.put (ym_26 Y) (by simp) n239
                                have G242 := gp_26 Y G234 ⟨_, h238, e240⟩ n239
                                refine v_aload_n B dX12_initiates_433 rfl rfl ?_
                                have h243 := (n239 h (ne_ty Y.o (ym_26 Y) (by decide))).trans (h235)
                                refine u_get B Z (C := RX12) (T := TX12) (N := 123) (ci := 12) hi_M_initiates_X12 Y.o h243 rfl 15 (by decide +kernel) (List.mem_of_getElem? (i := 15) rfl) rfl dX12_initiates_434 ?_
                                refine v_iload_n B dX12_initiates_437 rfl rfl ?_
                                refine v_lload B dX12_initiates_438 rfl ?_
                                obtain ⟨f244, h245, e246⟩ := ga_7 G242.t
                                have h247 := (n239 (q 15) (ne_ty (ym_15 Y) (ym_26 Y) (by decide))).trans ((n231 (q 15) (ne_ty (ym_15 Y) (ym_9 Y) (by decide))).trans ((F163 (q 15) _ (ym_15 Y) (by first | rfl | simp)).trans ((F128 (q 15) _ (ym_15 Y) (by first | rfl | simp)).trans ((F116 (q 15) _ (ym_15 Y) (by first | rfl | simp)).trans ((F103 (q 15) _ (ym_15 Y) (by first | rfl | simp)).trans (h94))))))
                                have ra248 := G242.c _ _ _ _ _ _ h245 h247
                                refine u_last B Z (t0 := 1) (x := lI yy205) (ym_15 Y) h247 rfl (by omega) dX12_initiates_440 (fun σ249 h250 n251 => ?_)
                                have F252 := F241.put (ym_15 Y) (by simp) n251
                                have T253 := gp_15 Y G242.t ⟨_, h250⟩ n251
                                have R254 := (G242.a).kept (n251 _ (ne_ty (ym_85 Y) (ym_15 Y) (by decide))) (n251 _ (ne_ty (ym_86 Y) (ym_15 Y) (by decide))) (n251 _ (ne_ty (ym_84 Y) (ym_15 Y) (by decide)))
                                have R255 := (G242.b).kept (n251 _ (ne_ty (ym_106 Y) (ym_15 Y) (by decide))) (n251 _ (ne_ty (ym_110 Y) (ym_15 Y) (by decide)))
                                have R256 := (G242.d).kept (n251 _ (ne_ty (ym_41 Y) (ym_15 Y) (by decide))) (n251 _ (ne_ty (ym_16 Y) (ym_15 Y) (by decide)))
                                have h257 := (n251 (q 7) (ne_ty (ym_7 Y) (ym_15 Y) (by decide))).trans (h245)
                                obtain ⟨z258, e259, r260⟩ := e246 (z64_3 : Int).toNat
                                have R261 : RelC q σ249 := RelC.mk h257 h250 (RC.set ra248 (z64_3 : Int).toNat (fun _ _ => rfl) (fun i hi => updL_n hi) (fun x e1 r1 hx => by rw [updL_s]; exact po224 (by omega)))
                                have G262 : GM K h q σ249 := ⟨T253, R254, R255, R261, R256⟩
                                refine v_aload_n B dX12_initiates_441 rfl rfl ?_
                                have h263 := (n251 h (ne_ty Y.o (ym_15 Y) (by decide))).trans (h243)
                                refine u_get B Z (C := RX12) (T := TX12) (N := 123) (ci := 12) hi_M_initiates_X12 Y.o h263 rfl 27 (by decide +kernel) (List.mem_of_getElem? (i := 16) rfl) rfl dX12_initiates_442 ?_
                                refine v_iload_n B dX12_initiates_445 rfl rfl ?_
                                refine v_iload B dX12_initiates_446 rfl ?_
                                have h264 := (n251 (q 27) (ne_ty (ym_27 Y) (ym_15 Y) (by decide))).trans ((n239 (q 27) (ne_ty (ym_27 Y) (ym_26 Y) (by decide))).trans ((n231 (q 27) (ne_ty (ym_27 Y) (ym_9 Y) (by decide))).trans ((F163 (q 27) _ (ym_27 Y) (by first | rfl | simp)).trans ((F128 (q 27) _ (ym_27 Y) (by first | rfl | simp)).trans ((F116 (q 27) _ (ym_27 Y) (by first | rfl | simp)).trans (h107))))))
                                refine u_iast B Z (t0 := 0) (x := iI z211) (ym_27 Y) h264 rfl (by omega) dX12_initiates_448 (fun σ265 h266 n267 => ?_)
                                have e268 := el_upd (z := z211) e108 ⟨by omega, by omega⟩ (z64_3 : Int).toNat
                                have F269 := F252.put (ym_27 Y) (by simp) n267
                                have G270 := gp_27 Y G262 ⟨_, h266, e268⟩ n267
                                refine v_aload_n B dX12_initiates_449 rfl rfl ?_
                                have h271 := (n267 h (ne_ty Y.o (ym_27 Y) (by decide))).trans (h263)
                                refine u_get B Z (C := RX12) (T := TX12) (N := 123) (ci := 12) hi_M_initiates_X12 Y.o h271 rfl 13 (by decide +kernel) (List.mem_of_getElem? (i := 67) rfl) rfl dX12_initiates_450 ?_
                                refine v_iload_n B dX12_initiates_453 rfl rfl ?_
                                refine v_aload_n B dX12_initiates_454 rfl rfl ?_
                                refine u_get B Z (C := RX12) (T := TX12) (N := 123) (ci := 12) hi_M_initiates_X12 Y.o h271 rfl 53 (by decide +kernel) (List.mem_of_getElem? (i := 49) rfl) rfl dX12_initiates_455 ?_
                                refine v_bipush B (v := iI 6) dX12_initiates_458 (by decide +kernel) ?_
                                refine v_bipush B (v := iI 6) dX12_initiates_460 (by decide +kernel) ?_
                                refine u_callSl B Z hz (n := 3) (As := [.ref (q 53), .int (iI 6), .int (iI 6)]) (rest := [.int (iI z64_3), .ref (q 13)]) (c_M_numberG l D K Z _ _ _ _ h q Y 53 40 6 6 rfl ⟨by omega, by omega⟩ ⟨by omega, by omega⟩ σ265 (G270.t) (by omega)) gd_M_initiates_M_numberG_494 rfl rfl rfl (by decide +kernel) ⟨Nat.le_trans (by decide +kernel) hR.1, Nat.le_trans (by decide +kernel) hR.2⟩ rfl rfl (Nat.le_of_ble_eq_true rfl) dX12_initiates_462 ⟨Nat.zero_le _, Nat.zero_le _⟩ (fun v274 σ272 p273 => ?_)
                                obtain ⟨rfl, yy275, e276, r277⟩ := p273
                                subst e276
                                obtain ⟨f278, h279⟩ := ga_13 G270.t
                                refine u_last B Z (t0 := 1) (x := lI yy275) (ym_13 Y) h279 rfl (by omega) dX12_initiates_465 (fun σ281 h282 n283 => ?_)
                                have F284 := F269.put (ym_13 Y) (by simp) n283
                                have G285 := gp_13 Y G270 ⟨_, h282⟩ n283
                                refine v_aload_n B dX12_initiates_466 rfl rfl ?_
                                have h286 := (n283 h (ne_ty Y.o (ym_13 Y) (by decide))).trans (h271)
                                refine u_get B Z (C := RX12) (T := TX12) (N := 123) (ci := 12) hi_M_initiates_X12 Y.o h286 rfl 53 (by decide +kernel) (List.mem_of_getElem? (i := 49) rfl) rfl dX12_initiates_467 ?_
                                refine v_bipush B (v := iI 18) dX12_initiates_470 (by decide +kernel) ?_
                                refine v_aload_n B dX12_initiates_472 rfl rfl ?_
                                refine u_get B Z (C := RX12) (T := TX12) (N := 123) (ci := 12) hi_M_initiates_X12 Y.o h286 rfl 39 (by decide +kernel) (List.mem_of_getElem? (i := 8) rfl) rfl dX12_initiates_473 ?_
                                refine v_iconst B (v := iI 4) dX12_initiates_476 rfl ?_
                                refine v_iload_n B dX12_initiates_477 rfl rfl ?_
                                refine v_imul B (v := iI (4 * z64_3)) dX12_initiates_478 ((iI_mul _ _).trans (congrArg iI (by omega))) ?_
                                refine v_iconst B (v := iI 4) dX12_initiates_479 rfl ?_
                                refine u_callSv B Z hz (n := 5) (As := [.ref (q 53), .int (iI 18), .ref (q 39), .int (iI (4 * z64_3)), .int (iI 4)]) (rest := []) (c_M_copy l D K Z _ _ _ _ h q Y 53 40 18 39 8 (4 * z64_3) 4 rfl ⟨by omega, by omega⟩ rfl ⟨by omega, by omega⟩ ⟨by omega, by omega⟩ σ281 G285 (by omega)) gd_M_initiates_M_copy_29 rfl rfl rfl (by decide +kernel) ⟨Nat.le_trans (by decide +kernel) hR.1, Nat.le_trans (by decide +kernel) hR.2⟩ rfl rfl (Nat.le_of_ble_eq_true rfl) dX12_initiates_480 ⟨Nat.zero_le _, Nat.zero_le _⟩ (fun σ287 p288 => ?_)
                                obtain ⟨G290, F291⟩ := p288
                                have F292 := F284.call F291 (by first | rfl | simp)
                                refine v_aload_n B dX12_initiates_483 rfl rfl ?_
                                have h293 := (F291 h _ Y.o (by first | rfl | simp)).trans (h286)
                                refine u_get B Z (C := RX12) (T := TX12) (N := 123) (ci := 12) hi_M_initiates_X12 Y.o h293 rfl 28 (by decide +kernel) (List.mem_of_getElem? (i := 12) rfl) rfl dX12_initiates_484 ?_
                                refine v_iload_n B dX12_initiates_487 rfl rfl ?_
                                refine v_aload_n B dX12_initiates_488 rfl rfl ?_
                                refine u_get B Z (C := RX12) (T := TX12) (N := 123) (ci := 12) hi_M_initiates_X12 Y.o h293 rfl 53 (by decide +kernel) (List.mem_of_getElem? (i := 49) rfl) rfl dX12_initiates_489 ?_
                                refine v_bipush B (v := iI 22) dX12_initiates_492 (by decide +kernel) ?_
                                refine v_iconst B (v := iI 3) dX12_initiates_494 rfl ?_
                                refine u_callSl B Z hz (n := 3) (As := [.ref (q 53), .int (iI 22), .int (iI 3)]) (rest := [.int (iI z64_3), .ref (q 28)]) (c_M_numberG l D K Z _ _ _ _ h q Y 53 40 22 3 rfl ⟨by omega, by omega⟩ ⟨by omega, by omega⟩ σ287 (G290.t) (by omega)) gd_M_initiates_M_numberG_494 rfl rfl rfl (by decide +kernel) ⟨Nat.le_trans (by decide +kernel) hR.1, Nat.le_trans (by decide +kernel) hR.2⟩ rfl rfl (Nat.le_of_ble_eq_true rfl) dX12_initiates_495 ⟨Nat.zero_le _, Nat.zero_le _⟩ (fun v296 σ294 p295 => ?_)
                                obtain ⟨rfl, yy297, e298, r299⟩ := p295
                                subst e298
                                obtain ⟨z300, e301, r302⟩ := iI_any ((lI yy297).toInt32)
                                refine v_l2i B (v := iI z300) dX12_initiates_498 e301 ?_
                                have h303 := (F291 (q 28) _ (ym_28 Y) (by first | rfl | simp)).trans ((n283 (q 28) (ne_ty (ym_28 Y) (ym_13 Y) (by decide))).trans ((n267 (q 28) (ne_ty (ym_28 Y) (ym_27 Y) (by decide))).trans ((n251 (q 28) (ne_ty (ym_28 Y) (ym_15 Y) (by decide))).trans ((n239 (q 28) (ne_ty (ym_28 Y) (ym_26 Y) (by decide))).trans ((n231 (q 28) (ne_ty (ym_28 Y) (ym_9 Y) (by decide))).trans ((F163 (q 28) _ (ym_28 Y) (by first | rfl | simp)).trans ((F128 (q 28) _ (ym_28 Y) (by first | rfl | simp)).trans ((F116 (q 28) _ (ym_28 Y) (by first | rfl | simp)).trans ((F103 (q 28) _ (ym_28 Y) (by first | rfl | simp)).trans ((F90 (q 28) _ (ym_28 Y) (by first | rfl | simp)).trans ((F77 (q 28) _ (ym_28 Y) (by first | rfl | simp)).trans ((F64 (q 28) _ (ym_28 Y) (by first | rfl | simp)).trans (h55)))))))))))))
                                refine u_iast B Z (t0 := 0) (x := iI z300) (ym_28 Y) h303 rfl (by omega) dX12_initiates_499 (fun σ304 h305 n306 => ?_)
                                have e307 := el_upd (z := z300) e56 ⟨by omega, by omega⟩ (z64_3 : Int).toNat
                                have F308 := F292.put (ym_28 Y) (by simp) n306
                                have G309 := gp_28 Y G290 ⟨_, h305, e307⟩ n306
                                refine v_aload_n B dX12_initiates_500 rfl rfl ?_
                                refine v_iload_n B dX12_initiates_501 rfl rfl ?_
                                refine v_iconst B (v := iI 5) dX12_initiates_502 rfl ?_
                                have h310 := (n306 (q 15) (ne_ty (ym_15 Y) (ym_28 Y) (by decide))).trans ((F291 (q 15) _ (ym_15 Y) (by first | rfl | simp)).trans ((n283 (q 15) (ne_ty (ym_15 Y) (ym_13 Y) (by decide))).trans ((n267 (q 15) (ne_ty (ym_15 Y) (ym_27 Y) (by decide))).trans (h250))))
                                refine u_callVv B Z hz (n := 2) (As := [.int (iI z64_3), .int (iI 5)]) (rest := []) (c_M_begins l D K Z _ _ _ _ h q Y z64_3 5 ⟨by omega, by omega⟩ ⟨by omega, by omega⟩ σ304 G309 (AtH.mk h310 (by rw [updL_s]; exact po224 (by omega)))) gd_M_initiates_M_begins_650 rfl rfl rfl (by decide +kernel) ⟨Nat.le_trans (by decide +kernel) hR.1, Nat.le_trans (by decide +kernel) hR.2⟩ Y.o (clsM G309.t) rfl rfl rfl rfl (Nat.le_of_ble_eq_true rfl) dX12_initiates_503 ⟨Nat.zero_le _, Nat.zero_le _⟩ (fun σ311 p312 => ?_)
                                obtain ⟨G314, F315⟩ := p312
                                have F316 := F308.call F315 (by first | rfl | simp)
                                have h317 := (F315 h _ Y.o (by first | rfl | simp)).trans ((n306 h (ne_ty Y.o (ym_28 Y) (by decide))).trans (h293))
                                exact hend σ311 _ _ G314 F316 (Fld.mk h317 (j := 51) rfl (by omega) (show z133 ≤ P + 1 from by omega)) dX12_initiates_506
                              · exact hend σ156 _ _ G162 F164 (Fld.mk h166 (j := 51) rfl (by omega) (show z133 ≤ P + 1 from by omega)) dX12_initiates_416
                · exact hend σ156 _ _ G162 F164 (Fld.mk h166 (j := 51) rfl (by omega) (show z133 ≤ P + 1 from by omega)) dX12_initiates_319
          · have h318 := (F163 h _ Y.o (by first | rfl | simp)).trans (h135)
            exact hend σ156 _ _ G162 F164 (Fld.mk h318 (j := 51) rfl (by omega) (show z133 ≤ P + 1 from by omega)) dX12_initiates_275
      · refine v_aload_n B dX12_initiates_70 rfl rfl ?_
        refine u_get B Z (C := RX12) (T := TX12) (N := 123) (ci := 12) hi_M_initiates_X12 Y.o hc64_h rfl 28 (by decide +kernel) (List.mem_of_getElem? (i := 12) rfl) rfl dX12_initiates_71 ?_
        refine v_iload_n B dX12_initiates_74 rfl rfl ?_
        refine v_dup2 B dX12_initiates_75 rfl rfl ?_
        obtain ⟨f319, h320, e321⟩ := ga_28 G_64.t
        obtain ⟨z322, e323, r324⟩ := e321 (d : Int).toNat
        refine u_iald B Z (t0 := 0) (ym_28 Y) h320 rfl (by omega) e323 dX12_initiates_76 ?_
        refine v_aload_n B dX12_initiates_77 rfl rfl ?_
        refine v_iload_n B dX12_initiates_78 rfl rfl ?_
        refine u_callVi B Z hz (n := 1) (As := [.int (iI d)]) (rest := [.int (iI z322), .int (iI d), .ref (q 28)]) (c_M_draw l D K Z _ _ _ _ h q Y d ⟨by omega, by omega⟩ σ_64 G_64) gd_M_initiates_M_draw_480 rfl rfl rfl (by decide +kernel) ⟨Nat.le_trans (by decide +kernel) hR.1, Nat.le_trans (by decide +kernel) hR.2⟩ Y.o (clsM G_64.t) rfl rfl rfl rfl (Nat.le_of_ble_eq_true rfl) dX12_initiates_79 ⟨Nat.zero_le _, Nat.zero_le _⟩ (fun v327 σ325 p326 => ?_)
        obtain ⟨G331, F332, z328, e329, r330⟩ := p326
        subst e329
        have F333 := F_64.call F332 (by first | rfl | simp)
        refine v_bipush B (v := iI 8) dX12_initiates_82 (by decide +kernel) ?_
        refine v_iload B dX12_initiates_84 rfl ?_
        refine v_imul B (v := iI (8 * z64_4)) dX12_initiates_86 ((iI_mul _ _).trans (congrArg iI (by omega))) ?_
        obtain ⟨z334, e335, r336⟩ := iI_shlv (a := z328) (c := (8 * z64_4)) (A := 255) 16 (by decide) (by omega) (by omega)
        refine v_ishl B (v := iI z334) dX12_initiates_87 e335 ?_
        obtain ⟨z337, e338, r339⟩ := iI_any (iI z322 ||| iI z334)
        refine v_ior B (v := iI z337) dX12_initiates_88 e338 ?_
        have h340 := (F332 (q 28) _ (ym_28 Y) (by first | rfl | simp)).trans (h320)
        refine u_iast B Z (t0 := 0) (x := iI z337) (ym_28 Y) h340 rfl (by omega) dX12_initiates_89 (fun σ341 h342 n343 => ?_)
        have e344 := el_upd (z := z337) e321 ⟨by omega, by omega⟩ (d : Int).toNat
        have F345 := F333.put (ym_28 Y) (by simp) n343
        have G346 := gp_28 Y G331 ⟨_, h342, e344⟩ n343
        refine v_iinc B (k := 4) (v := iI (z64_4 + 1)) (lv' := [(4, .int (iI (z64_4 + 1))), (0, .ref h), (1, .int (iI d)), (2, .int (iI x2)), (3, .int (iI z64_3))]) dX12_initiates_90 rfl ((iI_add _ _).trans (congrArg iI (by omega))) (by decide +kernel) rfl ?_
        refine v_goto B (tgt := 64) dX12_initiates_93 (by decide +kernel) ?_
        refine v_lv [1, 2, 3, 4, 0] rfl ?_
        have h347 := (n343 h (ne_ty Y.o (ym_28 Y) (by decide))).trans ((F332 h _ Y.o (by first | rfl | simp)).trans (hc64_h))
        exact IH64 σ341 z64_3 (z64_4 + 1) (by omega) G346 F345 h347 ⟨by omega, by omega⟩ ⟨by omega, by omega⟩
  have J25 : ∀ (k25 : Nat) (σ_25 : Nat → va_E) (z25_3 : Int) (z25_4 : Int), (2147483648 - z25_4).toNat ≤ k25 → GM K h q σ_25 → Fr τ [(131, 0), (136, 0), (137, 0), (140, 0), (141, 0), (154, 0), (155, 0), (156, 0), (157, 0), (168, 0), (169, 0), (170, 0), (171, 0), (172, 0), (158, 0), (159, 0), (173, 0), (174, 0), (176, 0), (185, 0), (186, 0), (189, 0), (192, 0), (204, 0), (206, 0), (214, 0), (216, 0), (107, 0), (132, 0), (129, 0), (130, 0), (133, 0), (134, 0), (135, 0), (145, 0), (144, 0), (146, 0), (113, 0), (108, 0), (139, 0), (128, 0), (152, 0), (124, 0), (50, 0), (148, 0), (149, 0), (150, 0), (123, 0), (147, 0), (153, 0), (109, 0), (126, 0), (115, 0), (127, 0)] σ0 σ_25 → (σ_25 h = .inr (12, fsM q (iI z1) (iI z2) (iI z3) (iI z4) (iI z5))) → (0 ≤ z25_3 ∧ z25_3 ≤ 1) → (0 ≤ z25_4 ∧ z25_4 ≤ 4) → V p l e R s m args below meth c 10 D A Q (0, 0) (fd dom σ_25) [(0, .ref h), (1, .int (iI d)), (2, .int (iI x2)), (3, .int (iI z25_3)), (4, .int (iI z25_4))] 25 [] := by
    intro k25
    induction k25 with
    | zero => intro σ_25 z25_3 z25_4 m25 G_25 F_25 hc25_h r25_3 r25_4; omega
    | succ k25 IH25 =>
      intro σ_25 z25_3 z25_4 m25 G_25 F_25 hc25_h r25_3 r25_4
      refine v_iload B dX12_initiates_25 rfl ?_
      refine v_iconst B (v := iI 4) dX12_initiates_27 rfl ?_
      refine u_icmp_ge B (tgt := 54) (by omega) (by omega) dX12_initiates_28 (by decide +kernel) (fun c348 => ?_) (fun c348 => ?_)
      · refine v_aload_n B dX12_initiates_54 rfl rfl ?_
        refine u_get B Z (C := RX12) (T := TX12) (N := 123) (ci := 12) hi_M_initiates_X12 Y.o hc25_h rfl 28 (by decide +kernel) (List.mem_of_getElem? (i := 12) rfl) rfl dX12_initiates_55 ?_
        refine v_iload_n B dX12_initiates_58 rfl rfl ?_
        refine v_iconst B (v := iI 0) dX12_initiates_59 rfl ?_
        obtain ⟨f349, h350, e351⟩ := ga_28 G_25.t
        refine u_iast B Z (t0 := 0) (x := iI 0) (ym_28 Y) h350 rfl (by omega) dX12_initiates_60 (fun σ352 h353 n354 => ?_)
        have e355 := el_upd (z := 0) e351 ⟨by omega, by omega⟩ (d : Int).toNat
        have F356 := F_25.put (ym_28 Y) (by simp) n354
        have G357 := gp_28 Y G_25 ⟨_, h353, e355⟩ n354
        refine v_iconst B (v := iI 0) dX12_initiates_61 rfl ?_
        refine v_istore B (lv' := [(4, .int (iI 0)), (0, .ref h), (1, .int (iI d)), (2, .int (iI x2)), (3, .int (iI z25_3))]) dX12_initiates_62 (by decide +kernel) rfl ?_
        refine v_lv [1, 2, 3, 4, 0] rfl ?_
        have h358 := (n354 h (ne_ty Y.o (ym_28 Y) (by decide))).trans (hc25_h)
        exact J64 _ σ352 z25_3 0 (Nat.le_refl _) G357 F356 h358 ⟨by omega, by omega⟩ ⟨by omega, by omega⟩
      · refine v_aload_n B dX12_initiates_31 rfl rfl ?_
        refine u_get B Z (C := RX12) (T := TX12) (N := 123) (ci := 12) hi_M_initiates_X12 Y.o hc25_h rfl 39 (by decide +kernel) (List.mem_of_getElem? (i := 8) rfl) rfl dX12_initiates_32 ?_
        refine v_iconst B (v := iI 4) dX12_initiates_35 rfl ?_
        refine v_iload_n B dX12_initiates_36 rfl rfl ?_
        refine v_imul B (v := iI (4 * d)) dX12_initiates_37 ((iI_mul _ _).trans (congrArg iI (by omega))) ?_
        refine v_iload B dX12_initiates_38 rfl ?_
        refine v_iadd B (v := iI (4 * d + z25_4)) dX12_initiates_40 ((iI_add _ _).trans (congrArg iI (by omega))) ?_
        refine v_aload_n B dX12_initiates_41 rfl rfl ?_
        refine v_iload_n B dX12_initiates_42 rfl rfl ?_
        refine u_callVi B Z hz (n := 1) (As := [.int (iI d)]) (rest := [.int (iI (4 * d + z25_4)), .ref (q 39)]) (c_M_draw l D K Z _ _ _ _ h q Y d ⟨by omega, by omega⟩ σ_25 G_25) gd_M_initiates_M_draw_480 rfl rfl rfl (by decide +kernel) ⟨Nat.le_trans (by decide +kernel) hR.1, Nat.le_trans (by decide +kernel) hR.2⟩ Y.o (clsM G_25.t) rfl rfl rfl rfl (Nat.le_of_ble_eq_true rfl) dX12_initiates_43 ⟨Nat.zero_le _, Nat.zero_le _⟩ (fun v361 σ359 p360 => ?_)
        obtain ⟨G365, F366, z362, e363, r364⟩ := p360
        subst e363
        have F367 := F_25.call F366 (by first | rfl | simp)
        obtain ⟨z368, e369, r370⟩ := iI_i8 z362
        refine v_i2b B (v := iI z368) dX12_initiates_46 e369 ?_
        obtain ⟨f371, h372, e373⟩ := ga_39 G365.t
        refine u_bast B Z (t0 := 2) (x := iI z368) (y := iI z368) (ym_39 Y) h372 rfl (by omega) (nar8 (by omega)) dX12_initiates_47 (fun σ374 h375 n376 => ?_)
        have F377 := F367.put (ym_39 Y) (by simp) n376
        have G378 := gp_39 Y G365 ⟨_, h375, el_upd (z := z368) e373 ⟨by omega, by omega⟩ _⟩ n376
        refine v_iinc B (k := 4) (v := iI (z25_4 + 1)) (lv' := [(4, .int (iI (z25_4 + 1))), (0, .ref h), (1, .int (iI d)), (2, .int (iI x2)), (3, .int (iI z25_3))]) dX12_initiates_48 rfl ((iI_add _ _).trans (congrArg iI (by omega))) (by decide +kernel) rfl ?_
        refine v_goto B (tgt := 25) dX12_initiates_51 (by decide +kernel) ?_
        refine v_lv [1, 2, 3, 4, 0] rfl ?_
        have h379 := (n376 h (ne_ty Y.o (ym_39 Y) (by decide))).trans ((F366 h _ Y.o (by first | rfl | simp)).trans (hc25_h))
        exact IH25 σ374 z25_3 (z25_4 + 1) (by omega) G378 F377 h379 ⟨by omega, by omega⟩ ⟨by omega, by omega⟩
  refine v_iconst B (v := iI 1) dX12_initiates_0 rfl ?_
  refine v_iload_n B dX12_initiates_1 rfl rfl ?_
  refine v_isub B (v := iI ((-1) * d + 1)) dX12_initiates_2 ((iI_sub _ _).trans (congrArg iI (by omega))) ?_
  refine v_istore_n B (lv' := [(3, .int (iI ((-1) * d + 1))), (0, .ref h), (1, .int (iI d)), (2, .int (iI x2))]) dX12_initiates_3 rfl (by decide +kernel) rfl ?_
  refine v_aload_n B dX12_initiates_4 rfl rfl ?_
  refine v_iload_n B dX12_initiates_5 rfl rfl ?_
  refine v_iconst B (v := iI 4) dX12_initiates_6 rfl ?_
  obtain ⟨f380, h381⟩ := ga_15 G0.t
  have ra383 := G0.c _ _ _ _ _ _ h14 h381
  have hb384 : hb (f380 (d : Int).toNat) := ra383 (d : Int).toNat (by omega) z16 e17 (by omega) (by omega)
  refine u_callVv B Z hz (n := 2) (As := [.int (iI d), .int (iI 4)]) (rest := []) (c_M_begins l D K Z _ _ _ _ h q Y d 4 ⟨by omega, by omega⟩ ⟨by omega, by omega⟩ σ0 G0 (AtH.mk h381 hb384)) gd_M_initiates_M_begins_650 rfl rfl rfl (by decide +kernel) ⟨Nat.le_trans (by decide +kernel) hR.1, Nat.le_trans (by decide +kernel) hR.2⟩ Y.o (clsM G0.t) rfl rfl rfl rfl (Nat.le_of_ble_eq_true rfl) dX12_initiates_7 ⟨Nat.zero_le _, Nat.zero_le _⟩ (fun σ385 p386 => ?_)
  obtain ⟨G388, F389⟩ := p386
  have F390 := F0.call F389 (by first | rfl | simp)
  refine v_aload_n B dX12_initiates_10 rfl rfl ?_
  have h391 := (F389 h _ Y.o (by first | rfl | simp)).trans (h6)
  refine u_get B Z (C := RX12) (T := TX12) (N := 123) (ci := 12) hi_M_initiates_X12 Y.o h391 rfl 13 (by decide +kernel) (List.mem_of_getElem? (i := 67) rfl) rfl dX12_initiates_11 ?_
  refine v_iload_n B dX12_initiates_14 rfl rfl ?_
  refine v_aload_n B dX12_initiates_15 rfl rfl ?_
  refine u_get B Z (C := RX12) (T := TX12) (N := 123) (ci := 12) hi_M_initiates_X12 Y.o h391 rfl 14 (by decide +kernel) (List.mem_of_getElem? (i := 7) rfl) rfl dX12_initiates_16 ?_
  refine v_iload_n B dX12_initiates_19 rfl rfl ?_
  obtain ⟨f392, h393⟩ := ga_14 G388.t
  obtain ⟨yy395, e396, r397⟩ := lI_any (f392 (d : Int).toNat)
  refine u_lald B Z (t0 := 1) (ym_14 Y) h393 rfl (by omega) e396 dX12_initiates_20 ?_
  obtain ⟨f398, h399⟩ := ga_13 G388.t
  refine u_last B Z (t0 := 1) (x := lI yy395) (ym_13 Y) h399 rfl (by omega) dX12_initiates_21 (fun σ401 h402 n403 => ?_)
  have F404 := F390.put (ym_13 Y) (by simp) n403
  have G405 := gp_13 Y G388 ⟨_, h402⟩ n403
  refine v_iconst B (v := iI 0) dX12_initiates_22 rfl ?_
  refine v_istore B (lv' := [(4, .int (iI 0)), (3, .int (iI ((-1) * d + 1))), (0, .ref h), (1, .int (iI d)), (2, .int (iI x2))]) dX12_initiates_23 (by decide +kernel) rfl ?_
  refine v_lv [2, 3, 4, 1, 0] rfl ?_
  have h406 := (n403 h (ne_ty Y.o (ym_13 Y) (by decide))).trans (h391)
  exact J25 _ σ401 ((-1) * d + 1) 0 (Nat.le_refl _) G405 F404 h406 ⟨by omega, by omega⟩ ⟨by omega, by omega⟩
set_option maxRecDepth 100000 in
theorem c_M_initiates (l : Launch) (D : va_G) (K : Nat → ClassId) {τ : Nat → Option Ty} {dom : List Nat} (Z : Sk τ dom) (zb zL : Nat) (zx : Nat → Int32) (zs : Nat → Nat) (h : Nat) (q : Nat → Nat) (Y : MS τ h q) (d : Int) (x2 : Int) (P : Int) (r_d : 0 ≤ d ∧ d ≤ 1) (r_x2 : -2147483648 ≤ x2 ∧ x2 ≤ 2147483647) (r_P : 0 ≤ P ∧ P ≤ 15) (σ0 : Nat → va_E) (G0 : GM K h q σ0) (hp : Fld σ0 h 12 51 (fun y => y = P)) (hS : At σ0 (q 7) (d : Int).toNat (3) (3)) : MZ l yX12_initiates wp_M_initiates ({ frames := 4, cells := 0, slots := 0, locals := 92 }) D (tysA K) [.ref h, .int (iI d), .int (iI x2)] (fd dom σ0) zb zL zx zs (Qv D (fun σ' => GM K h q σ' ∧ Fr τ [(131, 0), (136, 0), (137, 0), (140, 0), (141, 0), (154, 0), (155, 0), (156, 0), (157, 0), (168, 0), (169, 0), (170, 0), (171, 0), (172, 0), (158, 0), (159, 0), (173, 0), (174, 0), (176, 0), (185, 0), (186, 0), (189, 0), (192, 0), (204, 0), (206, 0), (214, 0), (216, 0), (107, 0), (132, 0), (129, 0), (130, 0), (133, 0), (134, 0), (135, 0), (145, 0), (144, 0), (146, 0), (113, 0), (108, 0), (139, 0), (128, 0), (152, 0), (124, 0), (50, 0), (148, 0), (149, 0), (150, 0), (123, 0), (147, 0), (153, 0), (109, 0), (126, 0), (115, 0), (127, 0)] σ0 σ' ∧ (Fld σ' h 12 51 (fun y => y ≤ P + 1))) (fun σ' => fd dom σ')) 0 0 := by
  refine mz_of (cc := cX12_initiates) (maxL := 10) (ret := none) (by decide +kernel) rfl (Nat.le_of_ble_eq_true rfl) ?_
  intro p e s m below meth c A B hr hlk _ hz
  exact b_M_initiates ⟨Nat.le_refl _, Nat.le_refl _⟩ B Z hz h q Y d x2 P r_d r_x2 r_P σ0 G0 hp hS (fun σ' lv pc G F hP hd => v_vret B hr hlk σ' ⟨G, F, hP⟩ rfl (Nat.le_refl _) (Nat.le_refl _) hd)

def wp_M_advertises : List Cond := .code yX12_advertises cX12_advertises 8 none :: (([.fieldLink RX12 470 "LowEnergyModel" "t" "I", .fieldLink RX12 633 "LowEnergyModel" "FIRST_ACCESS" "[B", .methodLink RX12 640 yX12_isHeard, .instanceMethod yX12_isHeard, .selects RX12 yX12_isHeard yX12_isHeard, .initialized RX12, .code yX12_isHeard cX12_isHeard 7 (some .boolean), .fieldLink RX12 164 "LowEnergyModel" "air" "[B", .fieldLink RX12 173 "LowEnergyModel" "airLost" "[Z", .fieldLink RX12 170 "LowEnergyModel" "airChannel" "[I", .constant RX12 636 (5592405), .methodLink RX12 644 yX12_isGood, .instanceMethod yX12_isGood, .selects RX12 yX12_isGood yX12_isGood, .code yX12_isGood cX12_isGood 6 (some .boolean), .fieldLink RX12 179 "LowEnergyModel" "got" "[B", .methodLink RX12 422 yX12_crcByte, .static yX12_crcByte, .code yX12_crcByte cX12_crcByte 4 (some .int), .fieldLink RX12 167 "LowEnergyModel" "airMany" "[I", .methodLink RX12 29 yX12_copy, .static yX12_copy, .code yX12_copy cX12_copy 6 none, .methodLink RX12 425 yX12_whiten, .static yX12_whiten, .code yX12_whiten cX12_whiten 7 none, .methodLink RX12 418 yX12_crc, .static yX12_crc, .code yX12_crc cX12_crc 7 (some .int), .constant RX12 417 (16777215), .methodLink RX12 494 yX12_number_, .static yX12_number_, .code yX12_number_ cX12_number_ 6 (some .long), .fieldLink RX12 45 "LowEnergyModel" "state" "[I", .fieldLink RX12 67 "LowEnergyModel" "wanted" "[J", .methodLink RX12 647 yX12_initiates, .instanceMethod yX12_initiates, .selects RX12 yX12_initiates yX12_initiates, .code yX12_initiates cX12_initiates 10 none, .fieldLink RX12 176 "LowEnergyModel" "sending" "[B", .fieldLink RX12 60 "LowEnergyModel" "address" "[J", .methodLink RX12 432 yX12_number, .static yX12_number, .code yX12_number cX12_number 6 none, .fieldLink RX12 142 "LowEnergyModel" "access" "[B", .fieldLink RX12 109 "LowEnergyModel" "init" "[I", .fieldLink RX12 51 "LowEnergyModel" "interval" "[I", .fieldLink RX12 103 "LowEnergyModel" "timeout" "[I", .fieldLink RX12 70 "LowEnergyModel" "map" "[J", .fieldLink RX12 106 "LowEnergyModel" "hop" "[I", .methodLink RX12 466 yX12_sends, .instanceMethod yX12_sends, .selects RX12 yX12_sends yX12_sends, .code yX12_sends cX12_sends 11 (some .int), .fieldLink RX12 94 "LowEnergyModel" "lost" "[I", .fieldLink RX12 97 "LowEnergyModel" "noises" "[I", .fieldLink RX12 429 "LowEnergyModel" "packets" "I", .fieldLink RX12 100 "LowEnergyModel" "noise" "[I", .methodLink RX12 489 yX12_two, .static yX12_two, .code yX12_two cX12_two 2 (some .int), .methodLink RX12 497 yX12_isMap, .static yX12_isMap, .code yX12_isMap cX12_isMap 2 (some .boolean), .constantLong RX12 396 (137438953472), .methodLink RX12 398 yJ13_bitCount_95d88, .static yJ13_bitCount_95d88, .initialized RJ13, .code yJ13_bitCount_95d88 cJ13_bitCount_95d88 2 (some .int), .constantLong RJ13 314 (6148914691236517205), .constantLong RJ13 316 (3689348814741910323), .constantLong RJ13 318 (1085102592571150095), .fieldLink RX12 64 "LowEnergyModel" "peer" "[J", .methodLink RX12 650 yX12_begins, .instanceMethod yX12_begins, .selects RX12 yX12_begins yX12_begins, .code yX12_begins cX12_begins 3 none, .methodLink RX12 391 yX12_fresh, .instanceMethod yX12_fresh, .selects RX12 yX12_fresh yX12_fresh, .code yX12_fresh cX12_fresh 2 none, .fieldLink RX12 118 "LowEnergyModel" "channel" "[I", .fieldLink RX12 133 "LowEnergyModel" "reason" "[I", .fieldLink RX12 136 "LowEnergyModel" "ending" "[I", .fieldLink RX12 145 "LowEnergyModel" "hasGood" "[Z", .fieldLink RX12 149 "LowEnergyModel" "mapWaits" "[Z", .fieldLink RX12 182 "LowEnergyModel" "currentSort" "[I", .fieldLink RX12 185 "LowEnergyModel" "currentMany" "[I", .fieldLink RX12 188 "LowEnergyModel" "currentOp" "[I", .fieldLink RX12 191 "LowEnergyModel" "controls" "[I", .fieldLink RX12 224 "LowEnergyModel" "held" "[Z", .fieldLink RX12 227 "LowEnergyModel" "asked" "[Z", .fieldLink RX12 230 "LowEnergyModel" "hasFour" "[Z", .fieldLink RX12 233 "LowEnergyModel" "sealsOut" "[Z", .fieldLink RX12 236 "LowEnergyModel" "sealsIn" "[Z", .fieldLink RX12 194 "LowEnergyModel" "out" "[I", .fieldLink RX12 197 "LowEnergyModel" "opened" "[I", .fieldLink RX12 239 "LowEnergyModel" "isSecure" "[Z", .fieldLink RX12 242 "LowEnergyModel" "hasSession" "[Z", .fieldLink RX12 248 "LowEnergyModel" "toldVersion" "[Z", .fieldLink RX12 275 "LowEnergyModel" "messages" "[I", .fieldLink RX12 278 "LowEnergyModel" "taken" "[I", .fieldLink RX12 287 "LowEnergyModel" "begun" "[Z", .fieldLink RX12 296 "LowEnergyModel" "step" "[I", .fieldLink RX12 332 "LowEnergyModel" "mtu" "[I", .fieldLink RX12 338 "LowEnergyModel" "parts" "[I", .fieldLink RX12 362 "LowEnergyModel" "waits30" "[Z", .fieldLink RX12 365 "LowEnergyModel" "job" "[I", .fieldLink RX12 121 "LowEnergyModel" "anchor" "[I", .fieldLink RX12 112 "LowEnergyModel" "event" "[I", .fieldLink RX12 115 "LowEnergyModel" "u" "[I", .fieldLink RX12 124 "LowEnergyModel" "sn" "[I", .fieldLink RX12 127 "LowEnergyModel" "nesn" "[I", .fieldLink RX12 130 "LowEnergyModel" "heardAt" "[I", .methodLink RX12 504 yX12_complete_, .instanceMethod yX12_complete_, .selects RX12 yX12_complete_ yX12_complete_, .code yX12_complete_ cX12_complete_ 6 none, .fieldLink RX12 10 "LowEnergyModel" "tape" "[B", .methodLink RX12 409 yX12_complete, .instanceMethod yX12_complete, .selects RX12 yX12_complete yX12_complete, .code yX12_complete cX12_complete 11 none, .fieldLink RX12 155 "LowEnergyModel" "kept" "[I", .fieldLink RX12 158 "LowEnergyModel" "keptMany" "[I", .methodLink RX12 404 Lib.Math.min.name, .static Lib.Math.min.name, .initialized "java/lang/Math", .code Lib.Math.min.name Lib.Math.min.code 2 (some .int), .fieldLink RX12 161 "LowEnergyModel" "notKept" "[I", .methodLink RX12 480 yX12_draw, .instanceMethod yX12_draw, .selects RX12 yX12_draw yX12_draw, .code yX12_draw cX12_draw 2 (some .int), .fieldLink RX12 48 "LowEnergyModel" "x" "[I", .constant RX12 395 (1103515245), .fieldLink RX12 88 "LowEnergyModel" "reports" "[I", .fieldLink RX12 79 "LowEnergyModel" "reported" "[J", .fieldLink RX12 91 "LowEnergyModel" "reportMany" "[I", .fieldLink RX12 85 "LowEnergyModel" "reportData" "[B", .methodLink RX12 637 yX12_sendsFirst, .instanceMethod yX12_sendsFirst, .selects RX12 yX12_sendsFirst yX12_sendsFirst, .code yX12_sendsFirst cX12_sendsFirst 3 (some .int), .fieldLink RX12 82 "LowEnergyModel" "data" "[B", .fieldLink RX12 57 "LowEnergyModel" "advertised" "[I", .fieldLink RX12 54 "LowEnergyModel" "next" "[I"] : List Cond) ++ (wsX120 ++ ([])))
theorem hi_M_advertises_X12 : ∀ x ∈ u_ws RX12 TX12 123, x ∈ wp_M_advertises := fun _ h => List.mem_cons_of_mem _ (List.mem_append_right _ (List.mem_append_left _ h))
set_option maxRecDepth 100000 in
theorem gd_M_advertises_M_isHeardS_640 : GoodIn wp_M_advertises (wsV RX12 640 RX12 yX12_isHeard wp_M_isHeardS) := goodIn_app (goodIn_r _ [3, 4, 5, 6] rfl rfl) (goodIn_ca (goodIn_r _ [7, 8, 9, 10] rfl rfl) (goodIn_app (goodIn_cls hi_M_advertises_X12 gw_X12) (goodIn_nil)))
set_option maxRecDepth 100000 in
theorem gd_M_advertises_M_isGood_644 : GoodIn wp_M_advertises (wsV RX12 644 RX12 yX12_isGood wp_M_isGood) := goodIn_app (goodIn_r _ [12, 13, 14, 6] rfl rfl) (goodIn_ca (goodIn_r _ [15, 16, 17, 18, 6, 19, 20, 8, 21, 22, 23, 10, 24, 25, 26, 27, 28, 29, 30] rfl rfl) (goodIn_app (goodIn_cls hi_M_advertises_X12 gw_X12) (goodIn_nil)))
set_option maxRecDepth 100000 in
theorem gd_M_advertises_M_numberG_494 : GoodIn wp_M_advertises (va_wsS RX12 494 yX12_number_ wp_M_numberG) := goodIn_app (goodIn_r _ [31, 32, 6] rfl rfl) (goodIn_ca (goodIn_r _ [33] rfl rfl) (goodIn_nil))
set_option maxRecDepth 100000 in
theorem gd_M_advertises_M_initiates_647 : GoodIn wp_M_advertises (wsV RX12 647 RX12 yX12_initiates wp_M_initiates) := goodIn_app (goodIn_r _ [36, 37, 38, 6] rfl rfl) (goodIn_ca (goodIn_r _ [39, 40, 41, 42, 43, 6, 44, 35, 45, 21, 22, 23, 46, 47, 48, 49, 50, 2, 11, 51, 52, 53, 54, 8, 55, 56, 57, 20, 10, 9, 58, 24, 25, 26, 17, 18, 19, 27, 28, 29, 30, 3, 4, 5, 7, 12, 13, 14, 15, 16, 31, 32, 33, 59, 60, 61, 62, 63, 64, 65, 66, 67, 68, 69, 70, 71, 72, 73, 74, 75, 76, 77, 78, 79, 80, 81, 82, 83, 84, 85, 86, 87, 88, 89, 90, 91, 92, 93, 94, 95, 96, 97, 98, 99, 100, 101, 102, 103, 104, 105, 106, 107, 108, 34, 109, 1, 110, 111, 112, 113, 114, 115, 116, 117, 118, 119, 120, 121, 122, 123, 124, 125, 126, 127, 128, 129, 130, 131, 132, 133, 134, 135, 136] rfl rfl) (goodIn_app (goodIn_cls hi_M_advertises_X12 gw_X12) (goodIn_nil)))
set_option maxRecDepth 100000 in
theorem gd_M_advertises_M_copy_29 : GoodIn wp_M_advertises (va_wsS RX12 29 yX12_copy wp_M_copy) := goodIn_app (goodIn_r _ [21, 22, 6] rfl rfl) (goodIn_ca (goodIn_r _ [23] rfl rfl) (goodIn_nil))
set_option maxRecDepth 100000 in
theorem gd_M_advertises_M_sendsFirst_637 : GoodIn wp_M_advertises (wsV RX12 637 RX12 yX12_sendsFirst wp_M_sendsFirst) := goodIn_app (goodIn_r _ [141, 142, 143, 6] rfl rfl) (goodIn_ca (goodIn_r _ [144, 40, 41, 42, 43, 6, 44, 145, 146, 21, 22, 23, 2, 11, 51, 52, 53, 54, 8, 55, 56, 57, 20, 10, 9, 58, 24, 25, 26, 17, 18, 19, 27, 28, 29, 30] rfl rfl) (goodIn_app (goodIn_cls hi_M_advertises_X12 gw_X12) (goodIn_nil)))
set_option maxRecDepth 100000 in
theorem gd_M_advertises_M_draw_480 : GoodIn wp_M_advertises (wsV RX12 480 RX12 yX12_draw wp_M_draw) := goodIn_app (goodIn_r _ [131, 132, 133, 6] rfl rfl) (goodIn_ca (goodIn_r _ [134, 135, 136] rfl rfl) (goodIn_app (goodIn_cls hi_M_advertises_X12 gw_X12) (goodIn_nil)))
set_option maxHeartbeats 4000000 in
set_option maxRecDepth 100000 in
theorem b_M_advertises {p : Program} {l : Launch} {e : Env} {R : Room} {s : State} {m : MethodId} {args : Array Value} {below : List Frame} {meth : Method} {c : Code} {D : va_G} {K : Nat → ClassId} {A : Nat → Prop} {Q : State → Prop} {τ : Nat → Option Ty} {dom : List Nat} {zb zL : Nat} {zx : Nat → Int32} {zs : Nat → Nat} (hR : 5 ≤ R.frames ∧ 121 ≤ R.locals) (B : Bx p s m args c cX12_advertises 8 RX12 wp_M_advertises D (tysA K) A) (Z : Sk τ dom) (hz : ZL zb zL zx zs A s s.heap) (h : Nat) (q : Nat → Nat) (Y : MS τ h q) (d : Int) (P : Int) (r_d : 0 ≤ d ∧ d ≤ 1) (r_P : 0 ≤ P ∧ P ≤ 6) (σ0 : Nat → va_E) (G0 : GM K h q σ0) (hp : Fld σ0 h 12 51 (fun y => y = P)) (hend : ∀ (σ' : Nat → va_E) (lv : List (Nat × Value)) (pc : Nat), GM K h q σ' → Fr τ [(108, 0), (110, 0), (152, 0), (124, 0), (50, 0), (148, 0), (149, 0), (150, 0), (123, 0), (147, 0), (153, 0), (131, 0), (136, 0), (137, 0), (140, 0), (141, 0), (154, 0), (155, 0), (156, 0), (157, 0), (168, 0), (169, 0), (170, 0), (171, 0), (172, 0), (158, 0), (159, 0), (173, 0), (174, 0), (176, 0), (185, 0), (186, 0), (189, 0), (192, 0), (204, 0), (206, 0), (214, 0), (216, 0), (107, 0), (132, 0), (129, 0), (130, 0), (133, 0), (134, 0), (135, 0), (145, 0), (144, 0), (146, 0), (113, 0), (139, 0), (128, 0), (109, 0), (126, 0), (115, 0), (127, 0), (121, 0), (118, 0), (122, 0), (120, 0)] σ0 σ' → (Fld σ' h 12 51 (fun y => y ≤ P + 6)) → decode cX12_advertises pc = .ok (.return_, 1) → V p l e R s m args below meth c 8 D A Q (0, 0) (fd dom σ') lv pc []) : V p l e R s m args below meth c 8 D A Q (0, 0) (fd dom σ0) [(0, .ref h), (1, .int (iI d))] 0 [] := by
  have F0 : Fr τ [(108, 0), (110, 0), (152, 0), (124, 0), (50, 0), (148, 0), (149, 0), (150, 0), (123, 0), (147, 0), (153, 0), (131, 0), (136, 0), (137, 0), (140, 0), (141, 0), (154, 0), (155, 0), (156, 0), (157, 0), (168, 0), (169, 0), (170, 0), (171, 0), (172, 0), (158, 0), (159, 0), (173, 0), (174, 0), (176, 0), (185, 0), (186, 0), (189, 0), (192, 0), (204, 0), (206, 0), (214, 0), (216, 0), (107, 0), (132, 0), (129, 0), (130, 0), (133, 0), (134, 0), (135, 0), (145, 0), (144, 0), (146, 0), (113, 0), (139, 0), (128, 0), (109, 0), (126, 0), (115, 0), (127, 0), (121, 0), (118, 0), (122, 0), (120, 0)] σ0 σ0 := Fr.rf
  obtain ⟨z1, z2, z3, z4, z5, h6, r7, r8, r9, r10, r11⟩ := G0.t.o
  have r12 : z4 = P := hp.use h6 (j := 51) rfl (by omega)
  have J32 : ∀ (k32 : Nat) (σ_32 : Nat → va_E) (z32_2 : Int) (z32_3 : Int), (2147483648 - z32_3).toNat ≤ k32 → GM K h q σ_32 → Fr τ [(108, 0), (110, 0), (152, 0), (124, 0), (50, 0), (148, 0), (149, 0), (150, 0), (123, 0), (147, 0), (153, 0), (131, 0), (136, 0), (137, 0), (140, 0), (141, 0), (154, 0), (155, 0), (156, 0), (157, 0), (168, 0), (169, 0), (170, 0), (171, 0), (172, 0), (158, 0), (159, 0), (173, 0), (174, 0), (176, 0), (185, 0), (186, 0), (189, 0), (192, 0), (204, 0), (206, 0), (214, 0), (216, 0), (107, 0), (132, 0), (129, 0), (130, 0), (133, 0), (134, 0), (135, 0), (145, 0), (144, 0), (146, 0), (113, 0), (139, 0), (128, 0), (109, 0), (126, 0), (115, 0), (127, 0), (121, 0), (118, 0), (122, 0), (120, 0)] σ0 σ_32 → (0 ≤ z32_2 ∧ z32_2 ≤ 1) → (37 ≤ z32_3 ∧ z32_3 ≤ 40) → (Fld σ_32 h 12 51 (fun y => y ≤ P + 2 * (z32_3 - 37))) → V p l e R s m args below meth c 8 D A Q (0, 0) (fd dom σ_32) [(0, .ref h), (1, .int (iI d)), (2, .int (iI z32_2)), (3, .int (iI z32_3))] 32 [] := by
    intro k32
    induction k32 with
    | zero => intro σ_32 z32_2 z32_3 m32 G_32 F_32 r32_2 r32_3 i32; omega
    | succ k32 IH32 =>
      intro σ_32 z32_2 z32_3 m32 G_32 F_32 r32_2 r32_3 i32
      have J247 : ∀ (σ_247 : Nat → va_E), GM K h q σ_247 → Fr τ [(108, 0), (110, 0), (152, 0), (124, 0), (50, 0), (148, 0), (149, 0), (150, 0), (123, 0), (147, 0), (153, 0), (131, 0), (136, 0), (137, 0), (140, 0), (141, 0), (154, 0), (155, 0), (156, 0), (157, 0), (168, 0), (169, 0), (170, 0), (171, 0), (172, 0), (158, 0), (159, 0), (173, 0), (174, 0), (176, 0), (185, 0), (186, 0), (189, 0), (192, 0), (204, 0), (206, 0), (214, 0), (216, 0), (107, 0), (132, 0), (129, 0), (130, 0), (133, 0), (134, 0), (135, 0), (145, 0), (144, 0), (146, 0), (113, 0), (139, 0), (128, 0), (109, 0), (126, 0), (115, 0), (127, 0), (121, 0), (118, 0), (122, 0), (120, 0)] σ0 σ_247 → (37 ≤ z32_3 ∧ z32_3 ≤ 39) → (Fld σ_247 h 12 51 (fun y => y ≤ P + 2 * (z32_3 - 37) + 2)) → V p l e R s m args below meth c 8 D A Q (0, 0) (fd dom σ_247) [(0, .ref h), (1, .int (iI d)), (2, .int (iI z32_2)), (3, .int (iI z32_3))] 247 [] := by
        intro σ_247 G_247 F_247 rv247_z32_3 i247
        obtain ⟨z13, z14, z15, z16, z17, h18, r19, r20, r21, r22, r23⟩ := G_247.t.o
        have r24 : z16 ≤ P + 2 * (z32_3 - 37) + 2 := (i247).use h18 (j := 51) rfl (by omega)
        refine v_iinc B (k := 3) (v := iI (z32_3 + 1)) (lv' := [(3, .int (iI (z32_3 + 1))), (0, .ref h), (1, .int (iI d)), (2, .int (iI z32_2))]) dX12_advertises_247 rfl ((iI_add _ _).trans (congrArg iI (by omega))) (by decide +kernel) rfl ?_
        refine v_goto B (tgt := 32) dX12_advertises_250 (by decide +kernel) ?_
        refine v_lv [1, 2, 3, 0] rfl ?_
        exact IH32 σ_247 z32_2 (z32_3 + 1) (by omega) G_247 F_247 ⟨by omega, by omega⟩ ⟨by omega, by omega⟩ ((Fld.mk h18 (j := 51) rfl (by omega) (show z16 ≤ P + 2 * ((z32_3 + 1) - 37) from by omega)))
      have J76 : ∀ (σ_76 : Nat → va_E) (z76_4 : Int), GM K h q σ_76 → Fr τ [(108, 0), (110, 0), (152, 0), (124, 0), (50, 0), (148, 0), (149, 0), (150, 0), (123, 0), (147, 0), (153, 0), (131, 0), (136, 0), (137, 0), (140, 0), (141, 0), (154, 0), (155, 0), (156, 0), (157, 0), (168, 0), (169, 0), (170, 0), (171, 0), (172, 0), (158, 0), (159, 0), (173, 0), (174, 0), (176, 0), (185, 0), (186, 0), (189, 0), (192, 0), (204, 0), (206, 0), (214, 0), (216, 0), (107, 0), (132, 0), (129, 0), (130, 0), (133, 0), (134, 0), (135, 0), (145, 0), (144, 0), (146, 0), (113, 0), (139, 0), (128, 0), (109, 0), (126, 0), (115, 0), (127, 0), (121, 0), (118, 0), (122, 0), (120, 0)] σ0 σ_76 → (37 ≤ z32_3 ∧ z32_3 ≤ 39) → (0 ≤ z76_4 ∧ z76_4 ≤ 15) → (Fld σ_76 h 12 51 (fun y => y ≤ P + 2 * (z32_3 - 37) + 1) ∧ At σ_76 (q 7) (z32_2 : Int).toNat (2) (3)) → V p l e R s m args below meth c 8 D A Q (0, 0) (fd dom σ_76) [(0, .ref h), (1, .int (iI d)), (2, .int (iI z32_2)), (3, .int (iI z32_3)), (4, .int (iI z76_4))] 76 [] := by
        intro σ_76 z76_4 G_76 F_76 rv76_z32_3 r76_4 i76
        obtain ⟨z25, z26, z27, z28, z29, h30, r31, r32, r33, r34, r35⟩ := G_76.t.o
        have r36 : z28 ≤ P + 2 * (z32_3 - 37) + 1 := (i76.1).use h30 (j := 51) rfl (by omega)
        obtain ⟨f37, h38, e39⟩ := ga_7 G_76.t
        obtain ⟨z40, e41, r42⟩ := e39 (z32_2 : Int).toNat
        have r43 := (i76.2).use h38 e41 (by omega)
        refine v_iload_n B dX12_advertises_76 rfl rfl ?_
        refine v_bipush B (v := iI 37) dX12_advertises_77 (by decide +kernel) ?_
        refine v_aload_n B dX12_advertises_79 rfl rfl ?_
        refine u_get B Z (C := RX12) (T := TX12) (N := 123) (ci := 12) hi_M_advertises_X12 Y.o h30 rfl 43 (by decide +kernel) (List.mem_of_getElem? (i := 1) rfl) rfl dX12_advertises_80 ?_
        refine v_iconst B (v := iI 3) dX12_advertises_83 rfl ?_
        obtain ⟨z44, e45, q47, q48⟩ := iI_remt (a := z27) (b := 3) (by omega) (by omega)
        refine v_irem B (v := iI z44) dX12_advertises_84 (fun q => absurd ((iI_eq (a := 3) (b := 0) (by omega) (by omega)).mp q) (by omega)) e45 ?_
        refine v_iadd B (v := iI (z44 + 37)) dX12_advertises_85 ((iI_add _ _).trans (congrArg iI (by omega))) ?_
        refine u_icmp_eq B (tgt := 92) (by omega) (by omega) dX12_advertises_86 (by decide +kernel) (fun c49 => ?_) (fun c49 => ?_)
        · refine v_aload_n B dX12_advertises_92 rfl rfl ?_
          refine v_iload B dX12_advertises_93 rfl ?_
          refine u_gets4 B hz (List.mem_of_getElem? (i := 2) rfl) dX12_advertises_95 ?_
          refine v_iconst B (v := iI 0) dX12_advertises_98 rfl ?_
          refine v_iload_n B dX12_advertises_99 rfl rfl ?_
          refine u_callVi B Z hz (n := 4) (As := [.int (iI z76_4), .ref (zs 4), .int (iI 0), .int (iI z32_3)]) (rest := []) (c_M_isHeardS l D K Z _ _ _ _ h q Y z76_4 0 z32_3 ⟨by omega, by omega⟩ ⟨by omega, by omega⟩ ⟨by omega, by omega⟩ σ_76 (G_76.t)) gd_M_advertises_M_isHeardS_640 rfl rfl rfl (by decide +kernel) ⟨Nat.le_trans (by decide +kernel) hR.1, Nat.le_trans (by decide +kernel) hR.2⟩ Y.o (clsM G_76.t) rfl rfl rfl rfl (Nat.le_of_ble_eq_true rfl) dX12_advertises_100 ⟨Nat.zero_le _, Nat.zero_le _⟩ (fun v52 σ50 p51 => ?_)
          obtain ⟨rfl, z53, e54, r55⟩ := p51
          subst e54
          refine u_if_eq B (tgt := 247) (by omega) dX12_advertises_103 (by decide +kernel) (fun c56 => ?_) (fun c56 => ?_)
          · refine v_lv [0, 1, 2, 3] rfl ?_
            exact J247 σ_76 G_76 F_76 ⟨by omega, by omega⟩ ((Fld.mk h30 (j := 51) rfl (by omega) (show z28 ≤ P + 2 * (z32_3 - 37) + 2 from by omega)))
          · refine v_aload_n B dX12_advertises_106 rfl rfl ?_
            refine v_iload B dX12_advertises_107 rfl ?_
            refine v_ldcw B (v := iI 5592405) (u_ci (List.mem_of_getElem? (i := 11) rfl) (by decide +kernel)) dX12_advertises_109 ?_
            refine u_callVi B Z hz (n := 2) (As := [.int (iI z76_4), .int (iI 5592405)]) (rest := []) (c_M_isGood l D K Z _ _ _ _ h q Y z76_4 5592405 ⟨by omega, by omega⟩ ⟨by omega, by omega⟩ σ_76 G_76) gd_M_advertises_M_isGood_644 rfl rfl rfl (by decide +kernel) ⟨Nat.le_trans (by decide +kernel) hR.1, Nat.le_trans (by decide +kernel) hR.2⟩ Y.o (clsM G_76.t) rfl rfl rfl rfl (Nat.le_of_ble_eq_true rfl) dX12_advertises_112 ⟨Nat.zero_le _, Nat.zero_le _⟩ (fun v59 σ57 p58 => ?_)
            obtain ⟨G63, F64, z60, e61, r62⟩ := p58
            subst e61
            have F65 := F_76.call F64 (by first | rfl | simp)
            refine u_if_ne B (tgt := 121) (by omega) dX12_advertises_115 (by decide +kernel) (fun c66 => ?_) (fun c66 => ?_)
            · refine v_aload_n B dX12_advertises_121 rfl rfl ?_
              have h67 := (F64 h _ Y.o (by first | rfl | simp)).trans (h30)
              refine u_get B Z (C := RX12) (T := TX12) (N := 123) (ci := 12) hi_M_advertises_X12 Y.o h67 rfl 48 (by decide +kernel) (List.mem_of_getElem? (i := 20) rfl) rfl dX12_advertises_122 ?_
              refine v_iload B dX12_advertises_125 rfl ?_
              obtain ⟨f68, h69, e70⟩ := ga_48 G63.t
              obtain ⟨z71, e72, r73⟩ := e70 (z76_4 : Int).toNat
              refine u_iald B Z (t0 := 0) (ym_48 Y) h69 rfl (by omega) e72 dX12_advertises_127 ?_
              refine v_bipush B (v := iI 9) dX12_advertises_128 (by decide +kernel) ?_
              refine v_isub B (v := iI (z71 + (-9))) dX12_advertises_130 ((iI_sub _ _).trans (congrArg iI (by omega))) ?_
              refine v_istore B (lv' := [(5, .int (iI (z71 + (-9)))), (0, .ref h), (1, .int (iI d)), (2, .int (iI z32_2)), (3, .int (iI z32_3)), (4, .int (iI z76_4))]) dX12_advertises_131 (by decide +kernel) rfl ?_
              refine v_aload_n B dX12_advertises_133 rfl rfl ?_
              refine u_get B Z (C := RX12) (T := TX12) (N := 123) (ci := 12) hi_M_advertises_X12 Y.o h67 rfl 53 (by decide +kernel) (List.mem_of_getElem? (i := 16) rfl) rfl dX12_advertises_134 ?_
              refine v_iconst B (v := iI 4) dX12_advertises_137 rfl ?_
              obtain ⟨f74, h75, e76⟩ := ga_53 G63.t
              obtain ⟨z77, e78, r79⟩ := e76 (4 : Int).toNat
              refine u_bald B Z (t0 := 2) (ym_53 Y) h75 rfl (by omega) e78 dX12_advertises_138 ?_
              refine u_if_ne B (tgt := 247) (by omega) dX12_advertises_139 (by decide +kernel) (fun c80 => ?_) (fun c80 => ?_)
              · refine v_lv [1, 2, 3, 4] rfl ?_
                exact J247 σ57 G63 F65 ⟨by omega, by omega⟩ ((Fld.mk h67 (j := 51) rfl (by omega) (show z28 ≤ P + 2 * (z32_3 - 37) + 2 from by omega)))
              · refine v_iload B dX12_advertises_142 rfl ?_
                refine v_bipush B (v := iI 6) dX12_advertises_144 (by decide +kernel) ?_
                refine u_icmp_ge B (tgt := 152) (by omega) (by omega) dX12_advertises_146 (by decide +kernel) (fun c81 => ?_) (fun c81 => ?_)
                · refine v_aload_n B dX12_advertises_152 rfl rfl ?_
                  refine u_get B Z (C := RX12) (T := TX12) (N := 123) (ci := 12) hi_M_advertises_X12 Y.o h67 rfl 53 (by decide +kernel) (List.mem_of_getElem? (i := 16) rfl) rfl dX12_advertises_153 ?_
                  refine v_bipush B (v := iI 6) dX12_advertises_156 (by decide +kernel) ?_
                  refine v_bipush B (v := iI 6) dX12_advertises_158 (by decide +kernel) ?_
                  refine u_callSl B Z hz (n := 3) (As := [.ref (q 53), .int (iI 6), .int (iI 6)]) (rest := []) (c_M_numberG l D K Z _ _ _ _ h q Y 53 40 6 6 rfl ⟨by omega, by omega⟩ ⟨by omega, by omega⟩ σ57 (G63.t) (by omega)) gd_M_advertises_M_numberG_494 rfl rfl rfl (by decide +kernel) ⟨Nat.le_trans (by decide +kernel) hR.1, Nat.le_trans (by decide +kernel) hR.2⟩ rfl rfl (Nat.le_of_ble_eq_true rfl) dX12_advertises_160 ⟨Nat.zero_le _, Nat.zero_le _⟩ (fun v84 σ82 p83 => ?_)
                  obtain ⟨rfl, yy85, e86, r87⟩ := p83
                  subst e86
                  refine v_lstore B (lv' := [(6, .long (lI yy85)), (5, .int (iI (z71 + (-9)))), (0, .ref h), (1, .int (iI d)), (2, .int (iI z32_2)), (3, .int (iI z32_3)), (4, .int (iI z76_4))]) dX12_advertises_163 (by decide +kernel) rfl ?_
                  refine v_aload_n B dX12_advertises_165 rfl rfl ?_
                  refine u_get B Z (C := RX12) (T := TX12) (N := 123) (ci := 12) hi_M_advertises_X12 Y.o h67 rfl 7 (by decide +kernel) (List.mem_of_getElem? (i := 34) rfl) rfl dX12_advertises_166 ?_
                  refine v_iload_n B dX12_advertises_169 rfl rfl ?_
                  have h88 := (F64 (q 7) _ (ym_7 Y) (by first | rfl | simp)).trans (h38)
                  refine u_iald B Z (t0 := 0) (ym_7 Y) h88 rfl (by omega) e41 dX12_advertises_170 ?_
                  refine v_iconst B (v := iI 2) dX12_advertises_171 rfl ?_
                  refine u_icmp_ne B (tgt := 229) (by omega) (by omega) dX12_advertises_172 (by decide +kernel) (fun c89 => ?_) (fun c89 => ?_)
                  · refine v_lload B dX12_advertises_229 rfl ?_
                    refine v_aload_n B dX12_advertises_231 rfl rfl ?_
                    refine u_get B Z (C := RX12) (T := TX12) (N := 123) (ci := 12) hi_M_advertises_X12 Y.o h67 rfl 14 (by decide +kernel) (List.mem_of_getElem? (i := 35) rfl) rfl dX12_advertises_232 ?_
                    refine v_iload_n B dX12_advertises_235 rfl rfl ?_
                    obtain ⟨f90, h91⟩ := ga_14 G63.t
                    obtain ⟨yy93, e94, r95⟩ := lI_any (f90 (z32_2 : Int).toNat)
                    refine u_lald B Z (t0 := 1) (ym_14 Y) h91 rfl (by omega) e94 dX12_advertises_236 ?_
                    obtain ⟨z96, e97, r98⟩ := iI_any (lg_cmp (lI yy85) (lI yy93))
                    refine v_lcmp B (v := iI z96) dX12_advertises_237 e97 ?_
                    refine u_if_ne B (tgt := 247) (by omega) dX12_advertises_238 (by decide +kernel) (fun c99 => ?_) (fun c99 => ?_)
                    · refine v_lv [2, 3, 4, 5] rfl ?_
                      exact J247 σ57 G63 F65 ⟨by omega, by omega⟩ ((Fld.mk h67 (j := 51) rfl (by omega) (show z28 ≤ P + 2 * (z32_3 - 37) + 2 from by omega)))
                    · refine v_aload_n B dX12_advertises_241 rfl rfl ?_
                      refine v_iload_n B dX12_advertises_242 rfl rfl ?_
                      refine v_iload_n B dX12_advertises_243 rfl rfl ?_
                      refine u_callVv B Z hz (n := 2) (As := [.int (iI z32_2), .int (iI z32_3)]) (rest := []) (c_M_initiates l D K Z _ _ _ _ h q Y z32_2 z32_3 z28 ⟨by omega, by omega⟩ ⟨by omega, by omega⟩ ⟨by omega, by omega⟩ σ57 G63 (Fld.mk h67 (j := 51) rfl (by omega) rfl) (At.mk h88 e41 (by omega) ⟨by omega, by omega⟩)) gd_M_advertises_M_initiates_647 rfl rfl rfl (by decide +kernel) ⟨Nat.le_trans (by decide +kernel) hR.1, Nat.le_trans (by decide +kernel) hR.2⟩ Y.o (clsM G63.t) rfl rfl rfl rfl (Nat.le_of_ble_eq_true rfl) dX12_advertises_244 ⟨Nat.zero_le _, Nat.zero_le _⟩ (fun σ100 p101 => ?_)
                      obtain ⟨G104, F105, po103⟩ := p101
                      have F106 := F65.call F105 (by first | rfl | simp)
                      obtain ⟨z107, z108, z109, z110, z111, h112, r113, r114, r115, r116, r117⟩ := G104.t.o
                      have r118 : z110 ≤ z28 + 1 := po103.use h112 (j := 51) rfl (by omega)
                      refine v_lv [2, 3, 4, 5] rfl ?_
                      exact J247 σ100 G104 F106 ⟨by omega, by omega⟩ ((Fld.mk h112 (j := 51) rfl (by omega) (show z110 ≤ P + 2 * (z32_3 - 37) + 2 from by omega)))
                  · refine v_aload_n B dX12_advertises_175 rfl rfl ?_
                    refine u_get B Z (C := RX12) (T := TX12) (N := 123) (ci := 12) hi_M_advertises_X12 Y.o h67 rfl 21 (by decide +kernel) (List.mem_of_getElem? (i := 137) rfl) rfl dX12_advertises_176 ?_
                    refine v_iload_n B dX12_advertises_179 rfl rfl ?_
                    refine v_dup2 B dX12_advertises_180 rfl rfl ?_
                    obtain ⟨f119, h120, e121⟩ := ga_21 G63.t
                    obtain ⟨z122, e123, r124⟩ := e121 (z32_2 : Int).toNat
                    refine u_iald B Z (t0 := 0) (ym_21 Y) h120 rfl (by omega) e123 dX12_advertises_181 ?_
                    refine v_iconst B (v := iI 1) dX12_advertises_182 rfl ?_
                    obtain ⟨z125, e126, r127⟩ := iI_any (iI z122 + iI 1)
                    refine v_iadd B (v := iI z125) dX12_advertises_183 e126 ?_
                    refine u_iast B Z (t0 := 0) (x := iI z125) (ym_21 Y) h120 rfl (by omega) dX12_advertises_184 (fun σ128 h129 n130 => ?_)
                    have e131 := el_upd (z := z125) e121 ⟨by omega, by omega⟩ (z32_2 : Int).toNat
                    have F132 := F65.put (ym_21 Y) (by simp) n130
                    have G133 := gp_21 Y G63 ⟨_, h129, e131⟩ n130
                    refine v_aload_n B dX12_advertises_185 rfl rfl ?_
                    have h134 := (n130 h (ne_ty Y.o (ym_21 Y) (by decide))).trans (h67)
                    refine u_get B Z (C := RX12) (T := TX12) (N := 123) (ci := 12) hi_M_advertises_X12 Y.o h134 rfl 18 (by decide +kernel) (List.mem_of_getElem? (i := 138) rfl) rfl dX12_advertises_186 ?_
                    refine v_iload_n B dX12_advertises_189 rfl rfl ?_
                    refine v_lload B dX12_advertises_190 rfl ?_
                    obtain ⟨f135, h136⟩ := ga_18 G133.t
                    refine u_last B Z (t0 := 1) (x := lI yy85) (ym_18 Y) h136 rfl (by omega) dX12_advertises_192 (fun σ138 h139 n140 => ?_)
                    have F141 := F132.put (ym_18 Y) (by simp) n140
                    have G142 := gp_18 Y G133 ⟨_, h139⟩ n140
                    refine v_aload_n B dX12_advertises_193 rfl rfl ?_
                    have h143 := (n140 h (ne_ty Y.o (ym_18 Y) (by decide))).trans (h134)
                    refine u_get B Z (C := RX12) (T := TX12) (N := 123) (ci := 12) hi_M_advertises_X12 Y.o h143 rfl 22 (by decide +kernel) (List.mem_of_getElem? (i := 139) rfl) rfl dX12_advertises_194 ?_
                    refine v_iload_n B dX12_advertises_197 rfl rfl ?_
                    refine v_iload B dX12_advertises_198 rfl ?_
                    refine v_bipush B (v := iI 6) dX12_advertises_200 (by decide +kernel) ?_
                    refine v_isub B (v := iI (z71 + (-15))) dX12_advertises_202 ((iI_sub _ _).trans (congrArg iI (by omega))) ?_
                    obtain ⟨f144, h145, e146⟩ := ga_22 G142.t
                    refine u_iast B Z (t0 := 0) (x := iI (z71 + (-15))) (ym_22 Y) h145 rfl (by omega) dX12_advertises_203 (fun σ147 h148 n149 => ?_)
                    have e150 := el_upd (z := (z71 + (-15))) e146 ⟨by omega, by omega⟩ (z32_2 : Int).toNat
                    have F151 := F141.put (ym_22 Y) (by simp) n149
                    have G152 := gp_22 Y G142 ⟨_, h148, e150⟩ n149
                    refine v_aload_n B dX12_advertises_204 rfl rfl ?_
                    have h153 := (n149 h (ne_ty Y.o (ym_22 Y) (by decide))).trans (h143)
                    refine u_get B Z (C := RX12) (T := TX12) (N := 123) (ci := 12) hi_M_advertises_X12 Y.o h153 rfl 53 (by decide +kernel) (List.mem_of_getElem? (i := 16) rfl) rfl dX12_advertises_205 ?_
                    refine v_bipush B (v := iI 12) dX12_advertises_208 (by decide +kernel) ?_
                    refine v_aload_n B dX12_advertises_210 rfl rfl ?_
                    refine u_get B Z (C := RX12) (T := TX12) (N := 123) (ci := 12) hi_M_advertises_X12 Y.o h153 rfl 20 (by decide +kernel) (List.mem_of_getElem? (i := 140) rfl) rfl dX12_advertises_211 ?_
                    refine v_bipush B (v := iI 32) dX12_advertises_214 (by decide +kernel) ?_
                    refine v_iload_n B dX12_advertises_216 rfl rfl ?_
                    refine v_imul B (v := iI (32 * z32_2)) dX12_advertises_217 ((iI_mul _ _).trans (congrArg iI (by omega))) ?_
                    refine v_iload B dX12_advertises_218 rfl ?_
                    refine v_bipush B (v := iI 6) dX12_advertises_220 (by decide +kernel) ?_
                    refine v_isub B (v := iI (z71 + (-15))) dX12_advertises_222 ((iI_sub _ _).trans (congrArg iI (by omega))) ?_
                    refine u_callSv B Z hz (n := 5) (As := [.ref (q 53), .int (iI 12), .ref (q 20), .int (iI (32 * z32_2)), .int (iI (z71 + (-15)))]) (rest := []) (c_M_copy l D K Z _ _ _ _ h q Y 53 40 12 20 64 (32 * z32_2) (z71 + (-15)) rfl ⟨by omega, by omega⟩ rfl ⟨by omega, by omega⟩ ⟨by omega, by omega⟩ σ147 G152 (by omega)) gd_M_advertises_M_copy_29 rfl rfl rfl (by decide +kernel) ⟨Nat.le_trans (by decide +kernel) hR.1, Nat.le_trans (by decide +kernel) hR.2⟩ rfl rfl (Nat.le_of_ble_eq_true rfl) dX12_advertises_223 ⟨Nat.zero_le _, Nat.zero_le _⟩ (fun σ154 p155 => ?_)
                    obtain ⟨G157, F158⟩ := p155
                    have F159 := F151.call F158 (by first | rfl | simp)
                    refine v_goto B (tgt := 247) dX12_advertises_226 (by decide +kernel) ?_
                    refine v_lv [2, 3, 4, 5] rfl ?_
                    have h160 := (F158 h _ Y.o (by first | rfl | simp)).trans (h153)
                    exact J247 σ154 G157 F159 ⟨by omega, by omega⟩ ((Fld.mk h160 (j := 51) rfl (by omega) (show z28 ≤ P + 2 * (z32_3 - 37) + 2 from by omega)))
                · refine v_goto B (tgt := 247) dX12_advertises_149 (by decide +kernel) ?_
                  refine v_lv [1, 2, 3, 4] rfl ?_
                  exact J247 σ57 G63 F65 ⟨by omega, by omega⟩ ((Fld.mk h67 (j := 51) rfl (by omega) (show z28 ≤ P + 2 * (z32_3 - 37) + 2 from by omega)))
            · refine v_goto B (tgt := 247) dX12_advertises_118 (by decide +kernel) ?_
              refine v_lv [0, 1, 2, 3] rfl ?_
              have h161 := (F64 h _ Y.o (by first | rfl | simp)).trans (h30)
              exact J247 σ57 G63 F65 ⟨by omega, by omega⟩ ((Fld.mk h161 (j := 51) rfl (by omega) (show z28 ≤ P + 2 * (z32_3 - 37) + 2 from by omega)))
        · refine v_goto B (tgt := 247) dX12_advertises_89 (by decide +kernel) ?_
          refine v_lv [0, 1, 2, 3] rfl ?_
          exact J247 σ_76 G_76 F_76 ⟨by omega, by omega⟩ ((Fld.mk h30 (j := 51) rfl (by omega) (show z28 ≤ P + 2 * (z32_3 - 37) + 2 from by omega)))
      obtain ⟨z162, z163, z164, z165, z166, h167, r168, r169, r170, r171, r172⟩ := G_32.t.o
      have r173 : z165 ≤ P + 2 * (z32_3 - 37) := (i32).use h167 (j := 51) rfl (by omega)
      refine v_iload_n B dX12_advertises_32 rfl rfl ?_
      refine v_bipush B (v := iI 40) dX12_advertises_33 (by decide +kernel) ?_
      refine u_icmp_ge B (tgt := 253) (by omega) (by omega) dX12_advertises_35 (by decide +kernel) (fun c174 => ?_) (fun c174 => ?_)
      · exact hend σ_32 _ _ G_32 F_32 (Fld.mk h167 (j := 51) rfl (by omega) (show z165 ≤ P + 6 from by omega)) dX12_advertises_253
      · refine v_aload_n B dX12_advertises_38 rfl rfl ?_
        refine u_get B Z (C := RX12) (T := TX12) (N := 123) (ci := 12) hi_M_advertises_X12 Y.o h167 rfl 7 (by decide +kernel) (List.mem_of_getElem? (i := 34) rfl) rfl dX12_advertises_39 ?_
        refine v_iload_n B dX12_advertises_42 rfl rfl ?_
        obtain ⟨f175, h176, e177⟩ := ga_7 G_32.t
        obtain ⟨z178, e179, r180⟩ := e177 (d : Int).toNat
        refine u_iald B Z (t0 := 0) (ym_7 Y) h176 rfl (by omega) e179 dX12_advertises_43 ?_
        refine v_iconst B (v := iI 1) dX12_advertises_44 rfl ?_
        refine u_icmp_ne B (tgt := 253) (by omega) (by omega) dX12_advertises_45 (by decide +kernel) (fun c181 => ?_) (fun c181 => ?_)
        · exact hend σ_32 _ _ G_32 F_32 (Fld.mk h167 (j := 51) rfl (by omega) (show z165 ≤ P + 6 from by omega)) dX12_advertises_253
        · refine v_aload_n B dX12_advertises_48 rfl rfl ?_
          refine v_iload_n B dX12_advertises_49 rfl rfl ?_
          refine v_iload_n B dX12_advertises_50 rfl rfl ?_
          refine u_callVi B Z hz (n := 2) (As := [.int (iI d), .int (iI z32_3)]) (rest := []) (c_M_sendsFirst l D K Z _ _ _ _ h q Y d z32_3 z165 ⟨by omega, by omega⟩ ⟨by omega, by omega⟩ ⟨by omega, by omega⟩ σ_32 G_32 (Fld.mk h167 (j := 51) rfl (by omega) rfl)) gd_M_advertises_M_sendsFirst_637 rfl rfl rfl (by decide +kernel) ⟨Nat.le_trans (by decide +kernel) hR.1, Nat.le_trans (by decide +kernel) hR.2⟩ Y.o (clsM G_32.t) rfl rfl rfl rfl (Nat.le_of_ble_eq_true rfl) dX12_advertises_51 ⟨Nat.zero_le _, Nat.zero_le _⟩ (fun v184 σ182 p183 => ?_)
          obtain ⟨G190, F191, z185, e186, r187, po188, po189⟩ := p183
          subst e186
          have F192 := F_32.call F191 (by first | rfl | simp)
          obtain ⟨z193, z194, z195, z196, z197, h198, r199, r200, r201, r202, r203⟩ := G190.t.o
          have r204 : z196 = z165 + 1 := po189.use h198 (j := 51) rfl (by omega)
          obtain ⟨f205, h206, e207⟩ := ga_48 G190.t
          obtain ⟨z208, e209, r210⟩ := e207 (z185 : Int).toNat
          have r211 := po188.use h206 e209 (by omega)
          refine v_istore B (lv' := [(4, .int (iI z185)), (0, .ref h), (1, .int (iI d)), (2, .int (iI z32_2)), (3, .int (iI z32_3))]) dX12_advertises_54 (by decide +kernel) rfl ?_
          refine v_aload_n B dX12_advertises_56 rfl rfl ?_
          refine u_get B Z (C := RX12) (T := TX12) (N := 123) (ci := 12) hi_M_advertises_X12 Y.o h198 rfl 7 (by decide +kernel) (List.mem_of_getElem? (i := 34) rfl) rfl dX12_advertises_57 ?_
          refine v_iload_n B dX12_advertises_60 rfl rfl ?_
          have h212 := (F191 (q 7) _ (ym_7 Y) (by first | rfl | simp)).trans (h176)
          obtain ⟨z213, e214, r215⟩ := e177 (z32_2 : Int).toNat
          refine u_iald B Z (t0 := 0) (ym_7 Y) h212 rfl (by omega) e214 dX12_advertises_61 ?_
          refine v_iconst B (v := iI 2) dX12_advertises_62 rfl ?_
          refine u_icmp_eq B (tgt := 76) (by omega) (by omega) dX12_advertises_63 (by decide +kernel) (fun c216 => ?_) (fun c216 => ?_)
          · refine v_lv [1, 2, 3, 4, 0] rfl ?_
            exact J76 σ182 z185 G190 F192 ⟨by omega, by omega⟩ ⟨by omega, by omega⟩ (⟨(Fld.mk h198 (j := 51) rfl (by omega) (show z196 ≤ P + 2 * (z32_3 - 37) + 1 from by omega)), (At.mk h212 e214 (by omega) ⟨by omega, by omega⟩)⟩)
          · refine v_aload_n B dX12_advertises_66 rfl rfl ?_
            refine u_get B Z (C := RX12) (T := TX12) (N := 123) (ci := 12) hi_M_advertises_X12 Y.o h198 rfl 7 (by decide +kernel) (List.mem_of_getElem? (i := 34) rfl) rfl dX12_advertises_67 ?_
            refine v_iload_n B dX12_advertises_70 rfl rfl ?_
            refine u_iald B Z (t0 := 0) (ym_7 Y) h212 rfl (by omega) e214 dX12_advertises_71 ?_
            refine v_iconst B (v := iI 3) dX12_advertises_72 rfl ?_
            refine u_icmp_ne B (tgt := 247) (by omega) (by omega) dX12_advertises_73 (by decide +kernel) (fun c217 => ?_) (fun c217 => ?_)
            · refine v_lv [1, 2, 3, 4] rfl ?_
              exact J247 σ182 G190 F192 ⟨by omega, by omega⟩ ((Fld.mk h198 (j := 51) rfl (by omega) (show z196 ≤ P + 2 * (z32_3 - 37) + 2 from by omega)))
            · refine v_lv [1, 2, 3, 4, 0] rfl ?_
              exact J76 σ182 z185 G190 F192 ⟨by omega, by omega⟩ ⟨by omega, by omega⟩ (⟨(Fld.mk h198 (j := 51) rfl (by omega) (show z196 ≤ P + 2 * (z32_3 - 37) + 1 from by omega)), (At.mk h212 e214 (by omega) ⟨by omega, by omega⟩)⟩)
  refine v_aload_n B dX12_advertises_0 rfl rfl ?_
  refine u_get B Z (C := RX12) (T := TX12) (N := 123) (ci := 12) hi_M_advertises_X12 Y.o h6 rfl 10 (by decide +kernel) (List.mem_of_getElem? (i := 147) rfl) rfl dX12_advertises_1 ?_
  refine v_iload_n B dX12_advertises_4 rfl rfl ?_
  refine v_aload_n B dX12_advertises_5 rfl rfl ?_
  refine u_get B Z (C := RX12) (T := TX12) (N := 123) (ci := 12) hi_M_advertises_X12 Y.o h6 rfl 43 (by decide +kernel) (List.mem_of_getElem? (i := 1) rfl) rfl dX12_advertises_6 ?_
  refine v_aload_n B dX12_advertises_9 rfl rfl ?_
  refine u_get B Z (C := RX12) (T := TX12) (N := 123) (ci := 12) hi_M_advertises_X12 Y.o h6 rfl 9 (by decide +kernel) (List.mem_of_getElem? (i := 47) rfl) rfl dX12_advertises_10 ?_
  refine v_iload_n B dX12_advertises_13 rfl rfl ?_
  obtain ⟨f218, h219, e220⟩ := ga_9 G0.t
  obtain ⟨z221, e222, r223⟩ := e220 (d : Int).toNat
  refine u_iald B Z (t0 := 0) (ym_9 Y) h219 rfl (by omega) e222 dX12_advertises_14 ?_
  obtain ⟨z224, e225, r226⟩ := iI_any (iI z3 + iI z221)
  refine v_iadd B (v := iI z224) dX12_advertises_15 e225 ?_
  refine v_aload_n B dX12_advertises_16 rfl rfl ?_
  refine v_iload_n B dX12_advertises_17 rfl rfl ?_
  refine u_callVi B Z hz (n := 1) (As := [.int (iI d)]) (rest := [.int (iI z224), .int (iI d), .ref (q 10)]) (c_M_draw l D K Z _ _ _ _ h q Y d ⟨by omega, by omega⟩ σ0 G0) gd_M_advertises_M_draw_480 rfl rfl rfl (by decide +kernel) ⟨Nat.le_trans (by decide +kernel) hR.1, Nat.le_trans (by decide +kernel) hR.2⟩ Y.o (clsM G0.t) rfl rfl rfl rfl (Nat.le_of_ble_eq_true rfl) dX12_advertises_18 ⟨Nat.zero_le _, Nat.zero_le _⟩ (fun v229 σ227 p228 => ?_)
  obtain ⟨G233, F234, z230, e231, r232⟩ := p228
  subst e231
  have F235 := F0.call F234 (by first | rfl | simp)
  refine v_iconst B (v := iI 3) dX12_advertises_21 rfl ?_
  obtain ⟨z236, e237, r238⟩ := iI_and z230 (c := 3) (by decide) (by decide)
  refine v_iand B (v := iI z236) dX12_advertises_22 e237 ?_
  obtain ⟨z239, e240, r241⟩ := iI_any (iI z224 + iI z236)
  refine v_iadd B (v := iI z239) dX12_advertises_23 e240 ?_
  obtain ⟨f242, h243, e244⟩ := ga_10 G233.t
  refine u_iast B Z (t0 := 0) (x := iI z239) (ym_10 Y) h243 rfl (by omega) dX12_advertises_24 (fun σ245 h246 n247 => ?_)
  have e248 := el_upd (z := z239) e244 ⟨by omega, by omega⟩ (d : Int).toNat
  have F249 := F235.put (ym_10 Y) (by simp) n247
  have G250 := gp_10 Y G233 ⟨_, h246, e248⟩ n247
  refine v_iconst B (v := iI 1) dX12_advertises_25 rfl ?_
  refine v_iload_n B dX12_advertises_26 rfl rfl ?_
  refine v_isub B (v := iI ((-1) * d + 1)) dX12_advertises_27 ((iI_sub _ _).trans (congrArg iI (by omega))) ?_
  refine v_istore_n B (lv' := [(2, .int (iI ((-1) * d + 1))), (0, .ref h), (1, .int (iI d))]) dX12_advertises_28 rfl (by decide +kernel) rfl ?_
  refine v_bipush B (v := iI 37) dX12_advertises_29 (by decide +kernel) ?_
  refine v_istore_n B (lv' := [(3, .int (iI 37)), (2, .int (iI ((-1) * d + 1))), (0, .ref h), (1, .int (iI d))]) dX12_advertises_31 rfl (by decide +kernel) rfl ?_
  refine v_lv [2, 3, 1, 0] rfl ?_
  have h251 := (n247 h (ne_ty Y.o (ym_10 Y) (by decide))).trans ((F234 h _ Y.o (by first | rfl | simp)).trans (h6))
  exact J32 _ σ245 ((-1) * d + 1) 37 (Nat.le_refl _) G250 F249 ⟨by omega, by omega⟩ ⟨by omega, by omega⟩ ((Fld.mk h251 (j := 51) rfl (by omega) (show z4 ≤ P + 2 * (37 - 37) from by omega)))
set_option maxRecDepth 100000 in
theorem c_M_advertises (l : Launch) (D : va_G) (K : Nat → ClassId) {τ : Nat → Option Ty} {dom : List Nat} (Z : Sk τ dom) (zb zL : Nat) (zx : Nat → Int32) (zs : Nat → Nat) (h : Nat) (q : Nat → Nat) (Y : MS τ h q) (d : Int) (P : Int) (r_d : 0 ≤ d ∧ d ≤ 1) (r_P : 0 ≤ P ∧ P ≤ 6) (σ0 : Nat → va_E) (G0 : GM K h q σ0) (hp : Fld σ0 h 12 51 (fun y => y = P)) : MZ l yX12_advertises wp_M_advertises ({ frames := 5, cells := 0, slots := 0, locals := 121 }) D (tysA K) [.ref h, .int (iI d)] (fd dom σ0) zb zL zx zs (Qv D (fun σ' => GM K h q σ' ∧ Fr τ [(108, 0), (110, 0), (152, 0), (124, 0), (50, 0), (148, 0), (149, 0), (150, 0), (123, 0), (147, 0), (153, 0), (131, 0), (136, 0), (137, 0), (140, 0), (141, 0), (154, 0), (155, 0), (156, 0), (157, 0), (168, 0), (169, 0), (170, 0), (171, 0), (172, 0), (158, 0), (159, 0), (173, 0), (174, 0), (176, 0), (185, 0), (186, 0), (189, 0), (192, 0), (204, 0), (206, 0), (214, 0), (216, 0), (107, 0), (132, 0), (129, 0), (130, 0), (133, 0), (134, 0), (135, 0), (145, 0), (144, 0), (146, 0), (113, 0), (139, 0), (128, 0), (109, 0), (126, 0), (115, 0), (127, 0), (121, 0), (118, 0), (122, 0), (120, 0)] σ0 σ' ∧ (Fld σ' h 12 51 (fun y => y ≤ P + 6))) (fun σ' => fd dom σ')) 0 0 := by
  refine mz_of (cc := cX12_advertises) (maxL := 8) (ret := none) (by decide +kernel) rfl (Nat.le_of_ble_eq_true rfl) ?_
  intro p e s m below meth c A B hr hlk _ hz
  exact b_M_advertises ⟨Nat.le_refl _, Nat.le_refl _⟩ B Z hz h q Y d P r_d r_P σ0 G0 hp (fun σ' lv pc G F hP hd => v_vret B hr hlk σ' ⟨G, F, hP⟩ rfl (Nat.le_refl _) (Nat.le_refl _) hd)

def wp_M_one : List Cond := .code yX12_one cX12_one 2 none :: (([.fieldLink RX12 470 "LowEnergyModel" "t" "I", .methodLink RX12 662 yX12_isLinked, .instanceMethod yX12_isLinked, .selects RX12 yX12_isLinked yX12_isLinked, .initialized RX12, .code yX12_isLinked cX12_isLinked 2 (some .boolean), .fieldLink RX12 45 "LowEnergyModel" "state" "[I", .methodLink RX12 672 yX12_looks, .instanceMethod yX12_looks, .selects RX12 yX12_looks yX12_looks, .code yX12_looks cX12_looks 4 none, .fieldLink RX12 133 "LowEnergyModel" "reason" "[I", .methodLink RX12 391 yX12_fresh, .instanceMethod yX12_fresh, .selects RX12 yX12_fresh yX12_fresh, .code yX12_fresh cX12_fresh 2 none, .fieldLink RX12 118 "LowEnergyModel" "channel" "[I", .fieldLink RX12 136 "LowEnergyModel" "ending" "[I", .fieldLink RX12 145 "LowEnergyModel" "hasGood" "[Z", .fieldLink RX12 149 "LowEnergyModel" "mapWaits" "[Z", .fieldLink RX12 182 "LowEnergyModel" "currentSort" "[I", .fieldLink RX12 185 "LowEnergyModel" "currentMany" "[I", .fieldLink RX12 188 "LowEnergyModel" "currentOp" "[I", .fieldLink RX12 191 "LowEnergyModel" "controls" "[I", .fieldLink RX12 224 "LowEnergyModel" "held" "[Z", .fieldLink RX12 227 "LowEnergyModel" "asked" "[Z", .fieldLink RX12 230 "LowEnergyModel" "hasFour" "[Z", .fieldLink RX12 233 "LowEnergyModel" "sealsOut" "[Z", .fieldLink RX12 236 "LowEnergyModel" "sealsIn" "[Z", .fieldLink RX12 194 "LowEnergyModel" "out" "[I", .fieldLink RX12 197 "LowEnergyModel" "opened" "[I", .fieldLink RX12 239 "LowEnergyModel" "isSecure" "[Z", .fieldLink RX12 242 "LowEnergyModel" "hasSession" "[Z", .fieldLink RX12 248 "LowEnergyModel" "toldVersion" "[Z", .fieldLink RX12 275 "LowEnergyModel" "messages" "[I", .fieldLink RX12 278 "LowEnergyModel" "taken" "[I", .fieldLink RX12 287 "LowEnergyModel" "begun" "[Z", .fieldLink RX12 296 "LowEnergyModel" "step" "[I", .fieldLink RX12 332 "LowEnergyModel" "mtu" "[I", .fieldLink RX12 338 "LowEnergyModel" "parts" "[I", .fieldLink RX12 362 "LowEnergyModel" "waits30" "[Z", .fieldLink RX12 365 "LowEnergyModel" "job" "[I", .methodLink RX12 504 yX12_complete_, .instanceMethod yX12_complete_, .selects RX12 yX12_complete_ yX12_complete_, .code yX12_complete_ cX12_complete_ 6 none, .fieldLink RX12 10 "LowEnergyModel" "tape" "[B", .methodLink RX12 409 yX12_complete, .instanceMethod yX12_complete, .selects RX12 yX12_complete yX12_complete, .code yX12_complete cX12_complete 11 none, .fieldLink RX12 155 "LowEnergyModel" "kept" "[I", .fieldLink RX12 158 "LowEnergyModel" "keptMany" "[I", .methodLink RX12 404 Lib.Math.min.name, .static Lib.Math.min.name, .initialized "java/lang/Math", .code Lib.Math.min.name Lib.Math.min.code 2 (some .int), .fieldLink RX12 161 "LowEnergyModel" "notKept" "[I", .fieldLink RX12 103 "LowEnergyModel" "timeout" "[I", .methodLink RX12 459 yX12_reasons, .instanceMethod yX12_reasons, .selects RX12 yX12_reasons yX12_reasons, .code yX12_reasons cX12_reasons 3 none, .fieldLink RX12 130 "LowEnergyModel" "heardAt" "[I", .fieldLink RX12 51 "LowEnergyModel" "interval" "[I", .fieldLink RX12 152 "LowEnergyModel" "mine" "[Z", .fieldLink RX12 112 "LowEnergyModel" "event" "[I", .constant RX12 493 (65535), .fieldLink RX12 121 "LowEnergyModel" "anchor" "[I", .methodLink RX12 669 yX12_meets, .instanceMethod yX12_meets, .selects RX12 yX12_meets yX12_meets, .code yX12_meets cX12_meets 4 none, .methodLink RX12 653 yX12_sendsLink, .instanceMethod yX12_sendsLink, .selects RX12 yX12_sendsLink yX12_sendsLink, .code yX12_sendsLink cX12_sendsLink 2 (some .int), .fieldLink RX12 200 "LowEnergyModel" "current" "[B", .fieldLink RX12 176 "LowEnergyModel" "sending" "[B", .methodLink RX12 29 yX12_copy, .static yX12_copy, .code yX12_copy cX12_copy 6 none, .fieldLink RX12 142 "LowEnergyModel" "access" "[B", .fieldLink RX12 109 "LowEnergyModel" "init" "[I", .fieldLink RX12 127 "LowEnergyModel" "nesn" "[I", .fieldLink RX12 124 "LowEnergyModel" "sn" "[I", .methodLink RX12 466 yX12_sends, .instanceMethod yX12_sends, .selects RX12 yX12_sends yX12_sends, .code yX12_sends cX12_sends 11 (some .int), .fieldLink RX12 164 "LowEnergyModel" "air" "[B", .fieldLink RX12 94 "LowEnergyModel" "lost" "[I", .fieldLink RX12 97 "LowEnergyModel" "noises" "[I", .fieldLink RX12 429 "LowEnergyModel" "packets" "I", .fieldLink RX12 167 "LowEnergyModel" "airMany" "[I", .fieldLink RX12 170 "LowEnergyModel" "airChannel" "[I", .fieldLink RX12 173 "LowEnergyModel" "airLost" "[Z", .fieldLink RX12 100 "LowEnergyModel" "noise" "[I", .methodLink RX12 425 yX12_whiten, .static yX12_whiten, .code yX12_whiten cX12_whiten 7 none, .methodLink RX12 422 yX12_crcByte, .static yX12_crcByte, .code yX12_crcByte cX12_crcByte 4 (some .int), .methodLink RX12 418 yX12_crc, .static yX12_crc, .code yX12_crc cX12_crc 7 (some .int), .constant RX12 417 (16777215), .methodLink RX12 463 yX12_takesNext, .instanceMethod yX12_takesNext, .selects RX12 yX12_takesNext yX12_takesNext, .code yX12_takesNext cX12_takesNext 4 none, .methodLink RX12 451 yX12_macs, .instanceMethod yX12_macs, .selects RX12 yX12_macs yX12_macs, .code yX12_macs cX12_macs 10 none, .fieldLink RX12 254 "LowEnergyModel" "mac" "[B", .fieldLink RX12 257 "LowEnergyModel" "stream" "[B", .fieldLink RX12 209 "LowEnergyModel" "session" "[B", .methodLink RX12 444 yX12_e, .instanceMethod yX12_e, .selects RX12 yX12_e yX12_e, .code yX12_e cX12_e 13 none, .fieldLink RX12 33 "LowEnergyModel" "cells" "[B", .fieldLink RX12 26 "LowEnergyModel" "round" "[B", .fieldLink RX12 36 "LowEnergyModel" "moved" "[B", .methodLink RX12 14 yX12_twice, .static yX12_twice, .code yX12_twice cX12_twice 1 (some .int), .fieldLink RX12 22 "LowEnergyModel" "box" "[I", .methodLink RX12 440 yX12_nonce, .instanceMethod yX12_nonce, .selects RX12 yX12_nonce yX12_nonce, .code yX12_nonce cX12_nonce 7 none, .fieldLink RX12 251 "LowEnergyModel" "block" "[B", .methodLink RX12 432 yX12_number, .static yX12_number, .code yX12_number cX12_number 6 none, .fieldLink RX12 212 "LowEnergyModel" "iv" "[B", .methodLink RX12 455 yX12_turns, .instanceMethod yX12_turns, .selects RX12 yX12_turns yX12_turns, .code yX12_turns cX12_turns 9 none, .fieldLink RX12 203 "LowEnergyModel" "control" "[B", .fieldLink RX12 221 "LowEnergyModel" "controlMany" "[I", .fieldLink RX12 272 "LowEnergyModel" "messageMany" "[I", .fieldLink RX12 266 "LowEnergyModel" "message" "[B", .methodLink RX12 448 yX12_drops, .instanceMethod yX12_drops, .selects RX12 yX12_drops yX12_drops, .code yX12_drops cX12_drops 4 none, .methodLink RX12 640 yX12_isHeard, .instanceMethod yX12_isHeard, .selects RX12 yX12_isHeard yX12_isHeard, .code yX12_isHeard cX12_isHeard 7 (some .boolean), .methodLink RX12 644 yX12_isGood, .instanceMethod yX12_isGood, .selects RX12 yX12_isGood yX12_isGood, .code yX12_isGood cX12_isGood 6 (some .boolean), .fieldLink RX12 179 "LowEnergyModel" "got" "[B", .methodLink RX12 656 yX12_takesGood, .instanceMethod yX12_takesGood, .selects RX12 yX12_takesGood yX12_takesGood, .code yX12_takesGood cX12_takesGood 8 none, .methodLink RX12 476 yX12_pieces, .instanceMethod yX12_pieces, .selects RX12 yX12_pieces yX12_pieces, .code yX12_pieces cX12_pieces 7 none, .fieldLink RX12 269 "LowEnergyModel" "whole" "[B", .fieldLink RX12 293 "LowEnergyModel" "asks" "[B", .methodLink RX12 525 yX12_attributes, .instanceMethod yX12_attributes, .selects RX12 yX12_attributes yX12_attributes, .code yX12_attributes cX12_attributes 4 none, .methodLink RX12 562 yX12_asked, .instanceMethod yX12_asked, .selects RX12 yX12_asked yX12_asked, .code yX12_asked cX12_asked 7 none, .methodLink RX12 590 yX12_reads, .instanceMethod yX12_reads, .selects RX12 yX12_reads yX12_reads, .code yX12_reads cX12_reads 9 none, .methodLink RX12 564 yX12_error, .instanceMethod yX12_error, .selects RX12 yX12_error yX12_error, .code yX12_error cX12_error 5 none, .fieldLink RX12 290 "LowEnergyModel" "said" "[B", .methodLink RX12 527 yX12_says, .instanceMethod yX12_says, .selects RX12 yX12_says yX12_says, .code yX12_says cX12_says 5 none, .fieldLink RX12 329 "LowEnergyModel" "length" "[I", .fieldLink RX12 341 "LowEnergyModel" "values" "[B", .methodLink RX12 570 yX12_lacks, .instanceMethod yX12_lacks, .selects RX12 yX12_lacks yX12_lacks, .code yX12_lacks cX12_lacks 5 (some .int), .fieldLink RX12 326 "LowEnergyModel" "rights" "[I", .methodLink RX12 547 yX12_row, .instanceMethod yX12_row, .selects RX12 yX12_row yX12_row, .code yX12_row cX12_row 3 (some .int), .methodLink RX12 567 yX12_isHandle, .instanceMethod yX12_isHandle, .selects RX12 yX12_isHandle yX12_isHandle, .code yX12_isHandle cX12_isHandle 3 (some .boolean), .fieldLink RX12 320 "LowEnergyModel" "attributes" "[I", .methodLink RX12 593 yX12_writing, .instanceMethod yX12_writing, .selects RX12 yX12_writing yX12_writing, .code yX12_writing cX12_writing 8 none, .fieldLink RX12 350 "LowEnergyModel" "partHandle" "[I", .fieldLink RX12 353 "LowEnergyModel" "partPlace" "[I", .fieldLink RX12 356 "LowEnergyModel" "partMany" "[I", .fieldLink RX12 344 "LowEnergyModel" "partBytes" "[B", .methodLink RX12 574 yX12_writes, .instanceMethod yX12_writes, .selects RX12 yX12_writes yX12_writes, .code yX12_writes cX12_writes 4 none, .methodLink RX12 587 yX12_executes, .instanceMethod yX12_executes, .selects RX12 yX12_executes yX12_executes, .code yX12_executes cX12_executes 9 none, .fieldLink RX12 359 "LowEnergyModel" "trialLength" "[I", .fieldLink RX12 347 "LowEnergyModel" "trial" "[B", .methodLink RX12 596 Lib.Math.max.name, .static Lib.Math.max.name, .code Lib.Math.max.name Lib.Math.max.code 2 (some .int), .methodLink RX12 584 yX12_mtus, .instanceMethod yX12_mtus, .selects RX12 yX12_mtus yX12_mtus, .code yX12_mtus cX12_mtus 3 none, .fieldLink RX12 335 "LowEnergyModel" "ownMtu" "[I", .methodLink RX12 581 yX12_lists, .instanceMethod yX12_lists, .selects RX12 yX12_lists yX12_lists, .code yX12_lists cX12_lists 16 none, .methodLink RX12 603 yX12_endOf, .instanceMethod yX12_endOf, .selects RX12 yX12_endOf yX12_endOf, .code yX12_endOf cX12_endOf 4 (some .int), .fieldLink RX12 323 "LowEnergyModel" "type" "[I", .methodLink RX12 599 yX12_isValue, .instanceMethod yX12_isValue, .selects RX12 yX12_isValue yX12_isValue, .code yX12_isValue cX12_isValue 8 (some .boolean), .methodLink RX12 489 yX12_two, .static yX12_two, .code yX12_two cX12_two 2 (some .int), .methodLink RX12 577 yX12_hasBytes, .instanceMethod yX12_hasBytes, .selects RX12 yX12_hasBytes yX12_hasBytes, .code yX12_hasBytes cX12_hasBytes 4 (some .boolean), .methodLink RX12 556 yX12_toldOf, .instanceMethod yX12_toldOf, .selects RX12 yX12_toldOf yX12_toldOf, .code yX12_toldOf cX12_toldOf 4 none, .methodLink RX12 559 yX12_writesAlone, .instanceMethod yX12_writesAlone, .selects RX12 yX12_writesAlone yX12_writesAlone, .code yX12_writesAlone cX12_writesAlone 4 none, .methodLink RX12 553 yX12_confirmed, .instanceMethod yX12_confirmed, .selects RX12 yX12_confirmed yX12_confirmed, .code yX12_confirmed cX12_confirmed 3 none, .methodLink RX12 550 yX12_answered, .instanceMethod yX12_answered, .selects RX12 yX12_answered yX12_answered, .code yX12_answered cX12_answered 6 none, .fieldLink RX12 377 "LowEnergyModel" "place" "[I", .fieldLink RX12 380 "LowEnergyModel" "jobMany" "[I", .fieldLink RX12 368 "LowEnergyModel" "jobA" "[I", .fieldLink RX12 383 "LowEnergyModel" "jobBytes" "[B", .methodLink RX12 621 yX12_ends, .instanceMethod yX12_ends, .selects RX12 yX12_ends yX12_ends, .code yX12_ends cX12_ends 3 none, .methodLink RX12 630 yX12_asksFor, .instanceMethod yX12_asksFor, .selects RX12 yX12_asksFor yX12_asksFor, .code yX12_asksFor cX12_asksFor 3 none, .methodLink RX12 606 yX12_request, .instanceMethod yX12_request, .selects RX12 yX12_request yX12_request, .code yX12_request cX12_request 4 none, .fieldLink RX12 374 "LowEnergyModel" "due" "[I", .constantLong RX12 609 (65535), .constantLong RX12 611 (10240), .fieldLink RX12 371 "LowEnergyModel" "jobB" "[I", .constantLong RX12 613 (10243), .methodLink RX12 615 yX12_asksToWrite, .instanceMethod yX12_asksToWrite, .selects RX12 yX12_asksToWrite yX12_asksToWrite, .code yX12_asksToWrite cX12_asksToWrite 3 none, .methodLink RX12 624 yX12_isAnswer, .instanceMethod yX12_isAnswer, .selects RX12 yX12_isAnswer yX12_isAnswer, .code yX12_isAnswer cX12_isAnswer 3 (some .boolean), .methodLink RX12 618 yX12_areRows, .static yX12_areRows, .code yX12_areRows cX12_areRows 4 (some .boolean), .methodLink RX12 627 yX12_rows, .instanceMethod yX12_rows, .selects RX12 yX12_rows yX12_rows, .code yX12_rows cX12_rows 11 none, .methodLink RX12 522 yX12_pairs, .instanceMethod yX12_pairs, .selects RX12 yX12_pairs yX12_pairs, .code yX12_pairs cX12_pairs 8 none, .methodLink RX12 531 yX12_fails, .instanceMethod yX12_fails, .selects RX12 yX12_fails yX12_fails, .code yX12_fails cX12_fails 4 none, .fieldLink RX12 317 "LowEnergyModel" "pair" "[B", .fieldLink RX12 311 "LowEnergyModel" "ownRandom" "[B", .fieldLink RX12 314 "LowEnergyModel" "tkRow" "[B", .fieldLink RX12 206 "LowEnergyModel" "key" "[B", .fieldLink RX12 245 "LowEnergyModel" "hasKey" "[Z", .methodLink RX12 540 yX12_saysRow, .instanceMethod yX12_saysRow, .selects RX12 yX12_saysRow yX12_saysRow, .code yX12_saysRow cX12_saysRow 5 none, .fieldLink RX12 308 "LowEnergyModel" "confirm" "[B", .methodLink RX12 544 yX12_c, .instanceMethod yX12_c, .selects RX12 yX12_c yX12_c, .code yX12_c cX12_c 9 none, .fieldLink RX12 60 "LowEnergyModel" "address" "[J", .fieldLink RX12 64 "LowEnergyModel" "peer" "[J", .fieldLink RX12 305 "LowEnergyModel" "firstTwo" "[B", .fieldLink RX12 302 "LowEnergyModel" "tk" "[I", .methodLink RX12 537 yX12_tells, .instanceMethod yX12_tells, .selects RX12 yX12_tells yX12_tells, .code yX12_tells cX12_tells 3 none, .methodLink RX12 480 yX12_draw, .instanceMethod yX12_draw, .selects RX12 yX12_draw yX12_draw, .code yX12_draw cX12_draw 2 (some .int), .fieldLink RX12 48 "LowEnergyModel" "x" "[I", .constant RX12 395 (1103515245), .fieldLink RX12 299 "LowEnergyModel" "passkey" "[I", .methodLink RX12 534 yX12_saysFirst, .instanceMethod yX12_saysFirst, .selects RX12 yX12_saysFirst yX12_saysFirst, .code yX12_saysFirst cX12_saysFirst 3 none, .fieldLink RX12 281 "LowEnergyModel" "wholeMany" "[I", .fieldLink RX12 284 "LowEnergyModel" "wholeAll" "[I", .fieldLink RX12 263 "LowEnergyModel" "came" "[B", .methodLink RX12 473 yX12_controlled, .instanceMethod yX12_controlled, .selects RX12 yX12_controlled yX12_controlled, .code yX12_controlled cX12_controlled 8 none, .fieldLink RX12 73 "LowEnergyModel" "newMap" "[J", .methodLink RX12 494 yX12_number_, .static yX12_number_, .code yX12_number_ cX12_number_ 6 (some .long), .fieldLink RX12 139 "LowEnergyModel" "instant" "[I", .methodLink RX12 497 yX12_isMap, .static yX12_isMap, .code yX12_isMap cX12_isMap 2 (some .boolean), .constantLong RX12 396 (137438953472), .methodLink RX12 398 yJ13_bitCount_95d88, .static yJ13_bitCount_95d88, .initialized RJ13, .code yJ13_bitCount_95d88 cJ13_bitCount_95d88 2 (some .int), .constantLong RJ13 314 (6148914691236517205), .constantLong RJ13 316 (3689348814741910323), .constantLong RJ13 318 (1085102592571150095), .methodLink RX12 501 yX12_ciphers, .instanceMethod yX12_ciphers, .selects RX12 yX12_ciphers yX12_ciphers, .code yX12_ciphers cX12_ciphers 3 none, .methodLink RX12 486 yX12_adds_, .instanceMethod yX12_adds_, .selects RX12 yX12_adds_ yX12_adds_, .code yX12_adds_ cX12_adds_ 5 none, .fieldLink RX12 260 "LowEnergyModel" "pdu" "[B", .methodLink RX12 436 yX12_adds, .instanceMethod yX12_adds, .selects RX12 yX12_adds yX12_adds, .code yX12_adds cX12_adds 5 none, .methodLink RX12 515 yX12_makesSession, .instanceMethod yX12_makesSession, .selects RX12 yX12_makesSession yX12_makesSession, .code yX12_makesSession cX12_makesSession 3 none, .fieldLink RX12 218 "LowEnergyModel" "ownIv" "[B", .fieldLink RX12 215 "LowEnergyModel" "ownSkd" "[B", .methodLink RX12 512 yX12_draws, .instanceMethod yX12_draws, .selects RX12 yX12_draws yX12_draws, .code yX12_draws cX12_draws 3 none, .methodLink RX12 519 yX12_addsDraws, .instanceMethod yX12_addsDraws, .selects RX12 yX12_addsDraws yX12_addsDraws, .code yX12_addsDraws cX12_addsDraws 3 none, .fieldLink RX12 76 "LowEnergyModel" "features" "[J", .methodLink RX12 507 yX12_version, .instanceMethod yX12_version, .selects RX12 yX12_version yX12_version, .code yX12_version cX12_version 2 none, .constantLong RX12 510 (258), .methodLink RX12 483 yX12_bytesOf, .static yX12_bytesOf, .code yX12_bytesOf cX12_bytesOf 1 (some .int), .methodLink RX12 666 yX12_hops, .instanceMethod yX12_hops, .selects RX12 yX12_hops yX12_hops, .code yX12_hops cX12_hops 4 none, .fieldLink RX12 70 "LowEnergyModel" "map" "[J", .fieldLink RX12 115 "LowEnergyModel" "u" "[I", .fieldLink RX12 106 "LowEnergyModel" "hop" "[I", .fieldLink RX12 54 "LowEnergyModel" "next" "[I", .methodLink RX12 659 yX12_advertises, .instanceMethod yX12_advertises, .selects RX12 yX12_advertises yX12_advertises, .code yX12_advertises cX12_advertises 8 none, .fieldLink RX12 633 "LowEnergyModel" "FIRST_ACCESS" "[B", .constant RX12 636 (5592405), .fieldLink RX12 67 "LowEnergyModel" "wanted" "[J", .methodLink RX12 647 yX12_initiates, .instanceMethod yX12_initiates, .selects RX12 yX12_initiates yX12_initiates, .code yX12_initiates cX12_initiates 10 none, .methodLink RX12 650 yX12_begins, .instanceMethod yX12_begins, .selects RX12 yX12_begins yX12_begins, .code yX12_begins cX12_begins 3 none, .fieldLink RX12 88 "LowEnergyModel" "reports" "[I", .fieldLink RX12 79 "LowEnergyModel" "reported" "[J", .fieldLink RX12 91 "LowEnergyModel" "reportMany" "[I", .fieldLink RX12 85 "LowEnergyModel" "reportData" "[B", .methodLink RX12 637 yX12_sendsFirst, .instanceMethod yX12_sendsFirst, .selects RX12 yX12_sendsFirst yX12_sendsFirst, .code yX12_sendsFirst cX12_sendsFirst 3 (some .int), .fieldLink RX12 82 "LowEnergyModel" "data" "[B", .fieldLink RX12 57 "LowEnergyModel" "advertised" "[I"] : List Cond) ++ (wsX120 ++ ([])))
theorem hi_M_one_X12 : ∀ x ∈ u_ws RX12 TX12 123, x ∈ wp_M_one := fun _ h => List.mem_cons_of_mem _ (List.mem_append_right _ (List.mem_append_left _ h))
set_option maxRecDepth 100000 in
theorem gd_M_one_M_isLinked_662 : GoodIn wp_M_one (wsV RX12 662 RX12 yX12_isLinked wp_M_isLinked) := goodIn_app (goodIn_r _ [2, 3, 4, 5] rfl rfl) (goodIn_ca (goodIn_r _ [6, 7] rfl rfl) (goodIn_app (goodIn_cls hi_M_one_X12 gw_X12) (goodIn_nil)))
set_option maxRecDepth 100000 in
theorem gd_M_one_M_looks_672 : GoodIn wp_M_one (wsV RX12 672 RX12 yX12_looks wp_M_looks) := goodIn_app (goodIn_r _ [8, 9, 10, 5] rfl rfl) (goodIn_ca (goodIn_r _ [11, 12, 7, 13, 14, 15, 5, 16, 17, 18, 19, 20, 21, 22, 23, 24, 25, 26, 27, 28, 29, 30, 31, 32, 33, 34, 35, 36, 37, 38, 39, 40, 41, 42, 43, 44, 45, 46, 47, 48, 49, 50, 51, 52, 53, 54, 55, 56, 57, 58, 59, 60, 61, 62, 63, 1, 64, 65] rfl rfl) (goodIn_app (goodIn_cls hi_M_one_X12 gw_X12) (goodIn_nil)))
set_option maxRecDepth 100000 in
theorem gd_M_one_M_meets_669 : GoodIn wp_M_one (wsV RX12 669 RX12 yX12_meets wp_M_meets) := goodIn_app (goodIn_r _ [70, 71, 72, 5] rfl rfl) (goodIn_ca (goodIn_r _ [73, 74, 75, 76, 5, 77, 78, 79, 22, 80, 81, 82, 83, 84, 17, 21, 85, 86, 87, 88, 89, 90, 91, 92, 93, 94, 95, 96, 97, 98, 99, 100, 101, 102, 103, 104, 105, 106, 107, 108, 109, 110, 111, 112, 30, 113, 114, 115, 116, 117, 118, 119, 120, 121, 122, 123, 124, 125, 126, 127, 128, 129, 130, 131, 132, 133, 134, 135, 136, 137, 138, 139, 140, 141, 142, 143, 28, 7, 23, 24, 144, 145, 25, 35, 146, 36, 54, 55, 56, 57, 147, 148, 149, 150, 151, 18, 60, 61, 62, 63, 12, 152, 153, 154, 155, 156, 157, 158, 159, 160, 161, 162, 163, 164, 165, 166, 167, 168, 169, 170, 171, 172, 173, 174, 175, 176, 177, 178, 179, 180, 181, 182, 183, 184, 185, 186, 187, 188, 189, 190, 191, 192, 39, 193, 194, 195, 196, 197, 198, 199, 200, 201, 202, 32, 203, 204, 205, 206, 207, 208, 209, 210, 211, 40, 212, 213, 214, 215, 216, 217, 218, 219, 220, 221, 222, 223, 224, 225, 226, 227, 228, 229, 230, 231, 232, 233, 234, 235, 236, 237, 238, 239, 240, 241, 242, 243, 244, 245, 246, 247, 248, 249, 250, 251, 252, 253, 254, 255, 256, 257, 48, 49, 50, 51, 52, 53, 58, 258, 259, 260, 261, 262, 263, 264, 265, 41, 43, 44, 45, 46, 47, 266, 267, 268, 269, 270, 271, 272, 273, 274, 275, 276, 277, 42, 278, 279, 280, 281, 282, 283, 284, 285, 286, 287, 288, 289, 290, 291, 292, 293, 294, 295, 296, 297, 298, 299, 300, 301, 302, 303, 304, 305, 68, 306, 307, 308, 309, 38, 310, 311, 312, 313, 314, 315, 316, 317, 318, 319, 320, 321, 322, 323, 324, 325, 326, 327, 328, 329, 330, 331, 332, 333, 334, 335, 336, 337, 338, 339, 340, 341, 342, 343, 344, 345, 346, 37, 347, 348, 349, 350, 351, 352, 353, 67, 354, 355, 356, 357, 358, 20, 359, 360, 361, 362, 363, 364, 365, 366, 367, 368, 369, 370, 371, 372, 373, 29, 374, 375, 376, 377, 378, 379, 380, 381, 382, 27, 31, 26, 383, 384, 385, 386, 33, 387, 388, 389, 390, 391, 392, 393, 394, 395, 396, 397, 398, 399, 400, 401, 34, 402, 403, 404, 405, 64, 1, 19, 66] rfl rfl) (goodIn_app (goodIn_cls hi_M_one_X12 gw_X12) (goodIn_nil)))
set_option maxRecDepth 100000 in
theorem gd_M_one_M_hops_666 : GoodIn wp_M_one (wsV RX12 666 RX12 yX12_hops wp_M_hops) := goodIn_app (goodIn_r _ [406, 407, 408, 5] rfl rfl) (goodIn_ca (goodIn_r _ [409, 410, 17, 411, 412, 363, 364, 365, 366, 367, 368, 369, 20, 67, 358, 354] rfl rfl) (goodIn_app (goodIn_cls hi_M_one_X12 gw_X12) (goodIn_nil)))
set_option maxRecDepth 100000 in
theorem gd_M_one_M_advertises_659 : GoodIn wp_M_one (wsV RX12 659 RX12 yX12_advertises wp_M_advertises) := goodIn_app (goodIn_r _ [414, 415, 416, 5] rfl rfl) (goodIn_ca (goodIn_r _ [417, 1, 418, 152, 153, 154, 5, 155, 91, 97, 96, 419, 156, 157, 158, 159, 160, 102, 103, 104, 95, 80, 81, 82, 99, 100, 101, 105, 106, 107, 108, 355, 356, 357, 7, 420, 421, 422, 423, 424, 79, 328, 136, 137, 138, 83, 84, 65, 59, 410, 412, 87, 88, 89, 90, 92, 93, 94, 98, 247, 248, 249, 359, 360, 361, 362, 363, 364, 365, 366, 367, 368, 369, 329, 425, 426, 427, 428, 13, 14, 15, 16, 17, 12, 18, 19, 20, 21, 22, 23, 24, 25, 26, 27, 28, 29, 30, 31, 32, 33, 34, 35, 36, 37, 38, 39, 40, 41, 42, 69, 67, 411, 86, 85, 64, 43, 44, 45, 46, 47, 48, 49, 50, 51, 52, 53, 54, 55, 56, 57, 58, 336, 337, 338, 339, 340, 341, 429, 430, 431, 432, 433, 434, 435, 436, 437, 438, 413] rfl rfl) (goodIn_app (goodIn_cls hi_M_one_X12 gw_X12) (goodIn_nil)))
set_option maxHeartbeats 4000000 in
set_option maxRecDepth 100000 in
theorem b_M_one {p : Program} {l : Launch} {e : Env} {R : Room} {s : State} {m : MethodId} {args : Array Value} {below : List Frame} {meth : Method} {c : Code} {D : va_G} {K : Nat → ClassId} {A : Nat → Prop} {Q : State → Prop} {τ : Nat → Option Ty} {dom : List Nat} {zb zL : Nat} {zx : Nat → Int32} {zs : Nat → Nat} (hR : 11 ≤ R.frames ∧ 270 ≤ R.locals) (B : Bx p s m args c cX12_one 2 RX12 wp_M_one D (tysA K) A) (Z : Sk τ dom) (hz : ZL zb zL zx zs A s s.heap) (h : Nat) (q : Nat → Nat) (Y : MS τ h q)   (σ0 : Nat → va_E) (G0 : GM K h q σ0) (hend : ∀ (σ' : Nat → va_E) (lv : List (Nat × Value)) (pc : Nat), GM K h q σ' → Fr τ [(50, 0), (108, 0), (110, 0), (152, 0), (124, 0), (148, 0), (149, 0), (150, 0), (123, 0), (147, 0), (153, 0), (131, 0), (136, 0), (137, 0), (140, 0), (141, 0), (154, 0), (155, 0), (156, 0), (157, 0), (168, 0), (169, 0), (170, 0), (171, 0), (172, 0), (158, 0), (159, 0), (173, 0), (174, 0), (176, 0), (185, 0), (186, 0), (189, 0), (192, 0), (204, 0), (206, 0), (214, 0), (216, 0), (107, 0), (132, 0), (129, 0), (130, 0), (133, 0), (134, 0), (135, 0), (145, 0), (144, 0), (146, 0), (113, 0), (139, 0), (128, 0), (109, 0), (126, 0), (115, 0), (127, 0), (121, 0), (118, 0), (122, 0), (120, 0), (142, 0), (160, 0), (182, 0), (184, 0), (161, 0), (167, 0), (177, 0), (104, 0), (105, 0), (106, 0), (178, 0), (179, 0), (181, 0), (116, 0), (138, 0), (180, 0), (164, 0), (163, 0), (165, 0), (166, 0), (187, 0), (188, 0), (183, 0), (191, 0), (190, 0), (219, 0), (220, 0), (222, 0), (221, 0), (203, 0), (207, 0), (210, 0), (211, 0), (212, 0), (208, 0), (209, 0), (213, 0), (194, 0), (195, 0), (197, 0), (198, 0), (199, 0), (196, 0), (162, 0), (175, 0)] σ0 σ' → decode cX12_one pc = .ok (.return_, 1) → V p l e R s m args below meth c 2 D A Q (0, 0) (fd dom σ') lv pc []) : V p l e R s m args below meth c 2 D A Q (0, 0) (fd dom σ0) [(0, .ref h)] 0 [] := by
  have F0 : Fr τ [(50, 0), (108, 0), (110, 0), (152, 0), (124, 0), (148, 0), (149, 0), (150, 0), (123, 0), (147, 0), (153, 0), (131, 0), (136, 0), (137, 0), (140, 0), (141, 0), (154, 0), (155, 0), (156, 0), (157, 0), (168, 0), (169, 0), (170, 0), (171, 0), (172, 0), (158, 0), (159, 0), (173, 0), (174, 0), (176, 0), (185, 0), (186, 0), (189, 0), (192, 0), (204, 0), (206, 0), (214, 0), (216, 0), (107, 0), (132, 0), (129, 0), (130, 0), (133, 0), (134, 0), (135, 0), (145, 0), (144, 0), (146, 0), (113, 0), (139, 0), (128, 0), (109, 0), (126, 0), (115, 0), (127, 0), (121, 0), (118, 0), (122, 0), (120, 0), (142, 0), (160, 0), (182, 0), (184, 0), (161, 0), (167, 0), (177, 0), (104, 0), (105, 0), (106, 0), (178, 0), (179, 0), (181, 0), (116, 0), (138, 0), (180, 0), (164, 0), (163, 0), (165, 0), (166, 0), (187, 0), (188, 0), (183, 0), (191, 0), (190, 0), (219, 0), (220, 0), (222, 0), (221, 0), (203, 0), (207, 0), (210, 0), (211, 0), (212, 0), (208, 0), (209, 0), (213, 0), (194, 0), (195, 0), (197, 0), (198, 0), (199, 0), (196, 0), (162, 0), (175, 0)] σ0 σ0 := Fr.rf
  obtain ⟨z1, z2, z3, z4, z5, h6, r7, r8, r9, r10, r11⟩ := G0.t.o
  have J202 : ∀ (k202 : Nat) (σ_202 : Nat → va_E) (z202_1 : Int), (2147483648 - z202_1).toNat ≤ k202 → GM K h q σ_202 → Fr τ [(50, 0), (108, 0), (110, 0), (152, 0), (124, 0), (148, 0), (149, 0), (150, 0), (123, 0), (147, 0), (153, 0), (131, 0), (136, 0), (137, 0), (140, 0), (141, 0), (154, 0), (155, 0), (156, 0), (157, 0), (168, 0), (169, 0), (170, 0), (171, 0), (172, 0), (158, 0), (159, 0), (173, 0), (174, 0), (176, 0), (185, 0), (186, 0), (189, 0), (192, 0), (204, 0), (206, 0), (214, 0), (216, 0), (107, 0), (132, 0), (129, 0), (130, 0), (133, 0), (134, 0), (135, 0), (145, 0), (144, 0), (146, 0), (113, 0), (139, 0), (128, 0), (109, 0), (126, 0), (115, 0), (127, 0), (121, 0), (118, 0), (122, 0), (120, 0), (142, 0), (160, 0), (182, 0), (184, 0), (161, 0), (167, 0), (177, 0), (104, 0), (105, 0), (106, 0), (178, 0), (179, 0), (181, 0), (116, 0), (138, 0), (180, 0), (164, 0), (163, 0), (165, 0), (166, 0), (187, 0), (188, 0), (183, 0), (191, 0), (190, 0), (219, 0), (220, 0), (222, 0), (221, 0), (203, 0), (207, 0), (210, 0), (211, 0), (212, 0), (208, 0), (209, 0), (213, 0), (194, 0), (195, 0), (197, 0), (198, 0), (199, 0), (196, 0), (162, 0), (175, 0)] σ0 σ_202 → (0 ≤ z202_1 ∧ z202_1 ≤ 2) → V p l e R s m args below meth c 2 D A Q (0, 0) (fd dom σ_202) [(0, .ref h), (1, .int (iI z202_1))] 202 [] := by
    intro k202
    induction k202 with
    | zero => intro σ_202 z202_1 m202 G_202 F_202 r202_1; omega
    | succ k202 IH202 =>
      intro σ_202 z202_1 m202 G_202 F_202 r202_1
      have J220 : ∀ (σ_220 : Nat → va_E), GM K h q σ_220 → Fr τ [(50, 0), (108, 0), (110, 0), (152, 0), (124, 0), (148, 0), (149, 0), (150, 0), (123, 0), (147, 0), (153, 0), (131, 0), (136, 0), (137, 0), (140, 0), (141, 0), (154, 0), (155, 0), (156, 0), (157, 0), (168, 0), (169, 0), (170, 0), (171, 0), (172, 0), (158, 0), (159, 0), (173, 0), (174, 0), (176, 0), (185, 0), (186, 0), (189, 0), (192, 0), (204, 0), (206, 0), (214, 0), (216, 0), (107, 0), (132, 0), (129, 0), (130, 0), (133, 0), (134, 0), (135, 0), (145, 0), (144, 0), (146, 0), (113, 0), (139, 0), (128, 0), (109, 0), (126, 0), (115, 0), (127, 0), (121, 0), (118, 0), (122, 0), (120, 0), (142, 0), (160, 0), (182, 0), (184, 0), (161, 0), (167, 0), (177, 0), (104, 0), (105, 0), (106, 0), (178, 0), (179, 0), (181, 0), (116, 0), (138, 0), (180, 0), (164, 0), (163, 0), (165, 0), (166, 0), (187, 0), (188, 0), (183, 0), (191, 0), (190, 0), (219, 0), (220, 0), (222, 0), (221, 0), (203, 0), (207, 0), (210, 0), (211, 0), (212, 0), (208, 0), (209, 0), (213, 0), (194, 0), (195, 0), (197, 0), (198, 0), (199, 0), (196, 0), (162, 0), (175, 0)] σ0 σ_220 → (0 ≤ z202_1 ∧ z202_1 ≤ 1) → V p l e R s m args below meth c 2 D A Q (0, 0) (fd dom σ_220) [(0, .ref h), (1, .int (iI z202_1))] 220 [] := by
        intro σ_220 G_220 F_220 rv220_z202_1
        refine v_iinc B (k := 1) (v := iI (z202_1 + 1)) (lv' := [(1, .int (iI (z202_1 + 1))), (0, .ref h)]) dX12_one_220 rfl ((iI_add _ _).trans (congrArg iI (by omega))) (by decide +kernel) rfl ?_
        refine v_goto B (tgt := 202) dX12_one_223 (by decide +kernel) ?_
        refine v_lv [1, 0] rfl ?_
        exact IH202 σ_220 (z202_1 + 1) (by omega) G_220 F_220 ⟨by omega, by omega⟩
      refine v_iload_n B dX12_one_202 rfl rfl ?_
      refine v_iconst B (v := iI 2) dX12_one_203 rfl ?_
      refine u_icmp_ge B (tgt := 226) (by omega) (by omega) dX12_one_204 (by decide +kernel) (fun c12 => ?_) (fun c12 => ?_)
      · refine v_aload_n B dX12_one_226 rfl rfl ?_
        refine v_dup B dX12_one_227 rfl ?_
        obtain ⟨z13, z14, z15, z16, z17, h18, r19, r20, r21, r22, r23⟩ := G_202.t.o
        refine u_get B Z (C := RX12) (T := TX12) (N := 123) (ci := 12) hi_M_one_X12 Y.o h18 rfl 43 (by decide +kernel) (List.mem_of_getElem? (i := 1) rfl) rfl dX12_one_228 ?_
        refine v_iconst B (v := iI 1) dX12_one_231 rfl ?_
        obtain ⟨z24, e25, r26⟩ := iI_any (iI z15 + iI 1)
        refine v_iadd B (v := iI z24) dX12_one_232 e25 ?_
        refine u_put B Z (C := RX12) (T := TX12) (N := 123) (ci := 12) hi_M_one_X12 Y.o h18 rfl 43 (by decide +kernel) tyX12 tyX12_ok nmX12 (List.mem_of_getElem? (i := 1) rfl) rfl (ty := .int) (tyX12_ok 43 (by decide +kernel)) rfl rfl (Nat.le_of_ble_eq_true rfl) (fs' := fsM q (iI z13) (iI z14) (iI z24) (iI z16) (iI z17)) rfl dX12_one_233 (fun σ27 h28 n29 => ?_)
        have F30 := F_202.put Y.o (by simp) n29
        have G31 := G_202.putO Y ⟨z13, z14, z24, z16, z17, h28, ⟨by omega, by omega⟩, ⟨by omega, by omega⟩, ⟨by omega, by omega⟩, ⟨by omega, by omega⟩, ⟨by omega, by omega⟩⟩ n29
        exact hend σ27 _ _ G31 F30 dX12_one_236
      · refine v_aload_n B dX12_one_207 rfl rfl ?_
        refine v_iload_n B dX12_one_208 rfl rfl ?_
        refine u_callVi B Z hz (n := 1) (As := [.int (iI z202_1)]) (rest := []) (c_M_isLinked l D K Z _ _ _ _ h q Y z202_1 ⟨by omega, by omega⟩ σ_202 (G_202.t)) gd_M_one_M_isLinked_662 rfl rfl rfl (by decide +kernel) ⟨Nat.le_trans (by decide +kernel) hR.1, Nat.le_trans (by decide +kernel) hR.2⟩ Y.o (clsM G_202.t) rfl rfl rfl rfl (Nat.le_of_ble_eq_true rfl) dX12_one_209 ⟨Nat.zero_le _, Nat.zero_le _⟩ (fun v34 σ32 p33 => ?_)
        obtain ⟨rfl, z35, e36, r37, po38⟩ := p33
        subst e36
        obtain ⟨f39, h40, e41⟩ := ga_7 G_202.t
        obtain ⟨z42, e43, r44⟩ := e41 (z202_1 : Int).toNat
        have r45 : z35 = 1 → 4 ≤ z42 := fun q => ((po38 q).use h40 e43 (by omega)).1
        refine u_if_eq B (tgt := 220) (by omega) dX12_one_212 (by decide +kernel) (fun c46 => ?_) (fun c46 => ?_)
        · exact J220 σ_202 G_202 F_202 ⟨by omega, by omega⟩
        · refine v_aload_n B dX12_one_215 rfl rfl ?_
          refine v_iload_n B dX12_one_216 rfl rfl ?_
          refine u_callVv B Z hz (n := 1) (As := [.int (iI z202_1)]) (rest := []) (c_M_looks l D K Z _ _ _ _ h q Y z202_1 ⟨by omega, by omega⟩ σ_202 G_202) gd_M_one_M_looks_672 rfl rfl rfl (by decide +kernel) ⟨Nat.le_trans (by decide +kernel) hR.1, Nat.le_trans (by decide +kernel) hR.2⟩ Y.o (clsM G_202.t) rfl rfl rfl rfl (Nat.le_of_ble_eq_true rfl) dX12_one_217 ⟨Nat.zero_le _, Nat.zero_le _⟩ (fun σ47 p48 => ?_)
          obtain ⟨G50, F51⟩ := p48
          have F52 := F_202.call F51 (by first | rfl | simp)
          exact J220 σ47 G50 F52 ⟨by omega, by omega⟩
  have J144 : ∀ (k144 : Nat) (σ_144 : Nat → va_E) (z144_1 : Int), (2147483648 - z144_1).toNat ≤ k144 → GM K h q σ_144 → Fr τ [(50, 0), (108, 0), (110, 0), (152, 0), (124, 0), (148, 0), (149, 0), (150, 0), (123, 0), (147, 0), (153, 0), (131, 0), (136, 0), (137, 0), (140, 0), (141, 0), (154, 0), (155, 0), (156, 0), (157, 0), (168, 0), (169, 0), (170, 0), (171, 0), (172, 0), (158, 0), (159, 0), (173, 0), (174, 0), (176, 0), (185, 0), (186, 0), (189, 0), (192, 0), (204, 0), (206, 0), (214, 0), (216, 0), (107, 0), (132, 0), (129, 0), (130, 0), (133, 0), (134, 0), (135, 0), (145, 0), (144, 0), (146, 0), (113, 0), (139, 0), (128, 0), (109, 0), (126, 0), (115, 0), (127, 0), (121, 0), (118, 0), (122, 0), (120, 0), (142, 0), (160, 0), (182, 0), (184, 0), (161, 0), (167, 0), (177, 0), (104, 0), (105, 0), (106, 0), (178, 0), (179, 0), (181, 0), (116, 0), (138, 0), (180, 0), (164, 0), (163, 0), (165, 0), (166, 0), (187, 0), (188, 0), (183, 0), (191, 0), (190, 0), (219, 0), (220, 0), (222, 0), (221, 0), (203, 0), (207, 0), (210, 0), (211, 0), (212, 0), (208, 0), (209, 0), (213, 0), (194, 0), (195, 0), (197, 0), (198, 0), (199, 0), (196, 0), (162, 0), (175, 0)] σ0 σ_144 → (0 ≤ z144_1 ∧ z144_1 ≤ 2) → V p l e R s m args below meth c 2 D A Q (0, 0) (fd dom σ_144) [(0, .ref h), (1, .int (iI z144_1))] 144 [] := by
    intro k144
    induction k144 with
    | zero => intro σ_144 z144_1 m144 G_144 F_144 r144_1; omega
    | succ k144 IH144 =>
      intro σ_144 z144_1 m144 G_144 F_144 r144_1
      have J194 : ∀ (σ_194 : Nat → va_E), GM K h q σ_194 → Fr τ [(50, 0), (108, 0), (110, 0), (152, 0), (124, 0), (148, 0), (149, 0), (150, 0), (123, 0), (147, 0), (153, 0), (131, 0), (136, 0), (137, 0), (140, 0), (141, 0), (154, 0), (155, 0), (156, 0), (157, 0), (168, 0), (169, 0), (170, 0), (171, 0), (172, 0), (158, 0), (159, 0), (173, 0), (174, 0), (176, 0), (185, 0), (186, 0), (189, 0), (192, 0), (204, 0), (206, 0), (214, 0), (216, 0), (107, 0), (132, 0), (129, 0), (130, 0), (133, 0), (134, 0), (135, 0), (145, 0), (144, 0), (146, 0), (113, 0), (139, 0), (128, 0), (109, 0), (126, 0), (115, 0), (127, 0), (121, 0), (118, 0), (122, 0), (120, 0), (142, 0), (160, 0), (182, 0), (184, 0), (161, 0), (167, 0), (177, 0), (104, 0), (105, 0), (106, 0), (178, 0), (179, 0), (181, 0), (116, 0), (138, 0), (180, 0), (164, 0), (163, 0), (165, 0), (166, 0), (187, 0), (188, 0), (183, 0), (191, 0), (190, 0), (219, 0), (220, 0), (222, 0), (221, 0), (203, 0), (207, 0), (210, 0), (211, 0), (212, 0), (208, 0), (209, 0), (213, 0), (194, 0), (195, 0), (197, 0), (198, 0), (199, 0), (196, 0), (162, 0), (175, 0)] σ0 σ_194 → (0 ≤ z144_1 ∧ z144_1 ≤ 1) → V p l e R s m args below meth c 2 D A Q (0, 0) (fd dom σ_194) [(0, .ref h), (1, .int (iI z144_1))] 194 [] := by
        intro σ_194 G_194 F_194 rv194_z144_1
        refine v_iinc B (k := 1) (v := iI (z144_1 + 1)) (lv' := [(1, .int (iI (z144_1 + 1))), (0, .ref h)]) dX12_one_194 rfl ((iI_add _ _).trans (congrArg iI (by omega))) (by decide +kernel) rfl ?_
        refine v_goto B (tgt := 144) dX12_one_197 (by decide +kernel) ?_
        refine v_lv [1, 0] rfl ?_
        exact IH144 σ_194 (z144_1 + 1) (by omega) G_194 F_194 ⟨by omega, by omega⟩
      refine v_iload_n B dX12_one_144 rfl rfl ?_
      refine v_iconst B (v := iI 2) dX12_one_145 rfl ?_
      refine u_icmp_ge B (tgt := 200) (by omega) (by omega) dX12_one_146 (by decide +kernel) (fun c53 => ?_) (fun c53 => ?_)
      · refine v_iconst B (v := iI 0) dX12_one_200 rfl ?_
        refine v_istore_n B (lv' := [(1, .int (iI 0)), (0, .ref h)]) dX12_one_201 rfl (by decide +kernel) rfl ?_
        refine v_lv [1, 0] rfl ?_
        exact J202 _ σ_144 0 (Nat.le_refl _) G_144 F_144 ⟨by omega, by omega⟩
      · refine v_aload_n B dX12_one_149 rfl rfl ?_
        obtain ⟨z54, z55, z56, z57, z58, h59, r60, r61, r62, r63, r64⟩ := G_144.t.o
        refine u_get B Z (C := RX12) (T := TX12) (N := 123) (ci := 12) hi_M_one_X12 Y.o h59 rfl 42 (by decide +kernel) (List.mem_of_getElem? (i := 66) rfl) rfl dX12_one_150 ?_
        refine v_iload_n B dX12_one_153 rfl rfl ?_
        obtain ⟨f65, h66, e67⟩ := ga_42 G_144.t
        obtain ⟨z68, e69, r70⟩ := e67 (z144_1 : Int).toNat
        refine u_zald B Z (t0 := 3) (ym_42 Y) h66 rfl (by omega) e69 dX12_one_154 ?_
        refine u_if_ne B (tgt := 161) (by omega) dX12_one_155 (by decide +kernel) (fun c71 => ?_) (fun c71 => ?_)
        · refine v_aload_n B dX12_one_161 rfl rfl ?_
          refine u_get B Z (C := RX12) (T := TX12) (N := 123) (ci := 12) hi_M_one_X12 Y.o h59 rfl 29 (by decide +kernel) (List.mem_of_getElem? (i := 67) rfl) rfl dX12_one_162 ?_
          refine v_iload_n B dX12_one_165 rfl rfl ?_
          refine v_aload_n B dX12_one_166 rfl rfl ?_
          refine u_get B Z (C := RX12) (T := TX12) (N := 123) (ci := 12) hi_M_one_X12 Y.o h59 rfl 29 (by decide +kernel) (List.mem_of_getElem? (i := 67) rfl) rfl dX12_one_167 ?_
          refine v_iload_n B dX12_one_170 rfl rfl ?_
          obtain ⟨f72, h73, e74⟩ := ga_29 G_144.t
          obtain ⟨z75, e76, r77⟩ := e74 (z144_1 : Int).toNat
          refine u_iald B Z (t0 := 0) (ym_29 Y) h73 rfl (by omega) e76 dX12_one_171 ?_
          refine v_iconst B (v := iI 1) dX12_one_172 rfl ?_
          obtain ⟨z78, e79, r80⟩ := iI_any (iI z75 + iI 1)
          refine v_iadd B (v := iI z78) dX12_one_173 e79 ?_
          refine v_ldcw B (v := iI 65535) (u_ci (List.mem_of_getElem? (i := 68) rfl) (by decide +kernel)) dX12_one_174 ?_
          obtain ⟨z81, e82, r83⟩ := iI_and z78 (c := 65535) (by decide) (by decide)
          refine v_iand B (v := iI z81) dX12_one_177 e82 ?_
          refine u_iast B Z (t0 := 0) (x := iI z81) (ym_29 Y) h73 rfl (by omega) dX12_one_178 (fun σ84 h85 n86 => ?_)
          have e87 := el_upd (z := z81) e74 ⟨by omega, by omega⟩ (z144_1 : Int).toNat
          have F88 := F_144.put (ym_29 Y) (by simp) n86
          have G89 := gp_29 Y G_144 ⟨_, h85, e87⟩ n86
          refine v_aload_n B dX12_one_179 rfl rfl ?_
          have h90 := (n86 h (ne_ty Y.o (ym_29 Y) (by decide))).trans (h59)
          refine u_get B Z (C := RX12) (T := TX12) (N := 123) (ci := 12) hi_M_one_X12 Y.o h90 rfl 32 (by decide +kernel) (List.mem_of_getElem? (i := 69) rfl) rfl dX12_one_180 ?_
          refine v_iload_n B dX12_one_183 rfl rfl ?_
          refine v_dup2 B dX12_one_184 rfl rfl ?_
          obtain ⟨f91, h92, e93⟩ := ga_32 G89.t
          obtain ⟨z94, e95, r96⟩ := e93 (z144_1 : Int).toNat
          refine u_iald B Z (t0 := 0) (ym_32 Y) h92 rfl (by omega) e95 dX12_one_185 ?_
          refine v_aload_n B dX12_one_186 rfl rfl ?_
          refine u_get B Z (C := RX12) (T := TX12) (N := 123) (ci := 12) hi_M_one_X12 Y.o h90 rfl 9 (by decide +kernel) (List.mem_of_getElem? (i := 65) rfl) rfl dX12_one_187 ?_
          refine v_iload_n B dX12_one_190 rfl rfl ?_
          obtain ⟨f97, h98, e99⟩ := ga_9 G89.t
          obtain ⟨z100, e101, r102⟩ := e99 (z144_1 : Int).toNat
          refine u_iald B Z (t0 := 0) (ym_9 Y) h98 rfl (by omega) e101 dX12_one_191 ?_
          obtain ⟨z103, e104, r105⟩ := iI_any (iI z94 + iI z100)
          refine v_iadd B (v := iI z103) dX12_one_192 e104 ?_
          refine u_iast B Z (t0 := 0) (x := iI z103) (ym_32 Y) h92 rfl (by omega) dX12_one_193 (fun σ106 h107 n108 => ?_)
          have e109 := el_upd (z := z103) e93 ⟨by omega, by omega⟩ (z144_1 : Int).toNat
          have F110 := F88.put (ym_32 Y) (by simp) n108
          have G111 := gp_32 Y G89 ⟨_, h107, e109⟩ n108
          exact J194 σ106 G111 F110 ⟨by omega, by omega⟩
        · refine v_goto B (tgt := 194) dX12_one_158 (by decide +kernel) ?_
          exact J194 σ_144 G_144 F_144 ⟨by omega, by omega⟩
  have J107 : ∀ (k107 : Nat) (σ_107 : Nat → va_E) (z107_1 : Int), (2147483648 - z107_1).toNat ≤ k107 → GM K h q σ_107 → Fr τ [(50, 0), (108, 0), (110, 0), (152, 0), (124, 0), (148, 0), (149, 0), (150, 0), (123, 0), (147, 0), (153, 0), (131, 0), (136, 0), (137, 0), (140, 0), (141, 0), (154, 0), (155, 0), (156, 0), (157, 0), (168, 0), (169, 0), (170, 0), (171, 0), (172, 0), (158, 0), (159, 0), (173, 0), (174, 0), (176, 0), (185, 0), (186, 0), (189, 0), (192, 0), (204, 0), (206, 0), (214, 0), (216, 0), (107, 0), (132, 0), (129, 0), (130, 0), (133, 0), (134, 0), (135, 0), (145, 0), (144, 0), (146, 0), (113, 0), (139, 0), (128, 0), (109, 0), (126, 0), (115, 0), (127, 0), (121, 0), (118, 0), (122, 0), (120, 0), (142, 0), (160, 0), (182, 0), (184, 0), (161, 0), (167, 0), (177, 0), (104, 0), (105, 0), (106, 0), (178, 0), (179, 0), (181, 0), (116, 0), (138, 0), (180, 0), (164, 0), (163, 0), (165, 0), (166, 0), (187, 0), (188, 0), (183, 0), (191, 0), (190, 0), (219, 0), (220, 0), (222, 0), (221, 0), (203, 0), (207, 0), (210, 0), (211, 0), (212, 0), (208, 0), (209, 0), (213, 0), (194, 0), (195, 0), (197, 0), (198, 0), (199, 0), (196, 0), (162, 0), (175, 0)] σ0 σ_107 → (0 ≤ z107_1 ∧ z107_1 ≤ 2) → (Fld σ_107 h 12 51 (fun y => y ≤ 12 + 2 * z107_1)) → V p l e R s m args below meth c 2 D A Q (0, 0) (fd dom σ_107) [(0, .ref h), (1, .int (iI z107_1))] 107 [] := by
    intro k107
    induction k107 with
    | zero => intro σ_107 z107_1 m107 G_107 F_107 r107_1 i107; omega
    | succ k107 IH107 =>
      intro σ_107 z107_1 m107 G_107 F_107 r107_1 i107
      have J136 : ∀ (σ_136 : Nat → va_E), GM K h q σ_136 → Fr τ [(50, 0), (108, 0), (110, 0), (152, 0), (124, 0), (148, 0), (149, 0), (150, 0), (123, 0), (147, 0), (153, 0), (131, 0), (136, 0), (137, 0), (140, 0), (141, 0), (154, 0), (155, 0), (156, 0), (157, 0), (168, 0), (169, 0), (170, 0), (171, 0), (172, 0), (158, 0), (159, 0), (173, 0), (174, 0), (176, 0), (185, 0), (186, 0), (189, 0), (192, 0), (204, 0), (206, 0), (214, 0), (216, 0), (107, 0), (132, 0), (129, 0), (130, 0), (133, 0), (134, 0), (135, 0), (145, 0), (144, 0), (146, 0), (113, 0), (139, 0), (128, 0), (109, 0), (126, 0), (115, 0), (127, 0), (121, 0), (118, 0), (122, 0), (120, 0), (142, 0), (160, 0), (182, 0), (184, 0), (161, 0), (167, 0), (177, 0), (104, 0), (105, 0), (106, 0), (178, 0), (179, 0), (181, 0), (116, 0), (138, 0), (180, 0), (164, 0), (163, 0), (165, 0), (166, 0), (187, 0), (188, 0), (183, 0), (191, 0), (190, 0), (219, 0), (220, 0), (222, 0), (221, 0), (203, 0), (207, 0), (210, 0), (211, 0), (212, 0), (208, 0), (209, 0), (213, 0), (194, 0), (195, 0), (197, 0), (198, 0), (199, 0), (196, 0), (162, 0), (175, 0)] σ0 σ_136 → (0 ≤ z107_1 ∧ z107_1 ≤ 1) → (Fld σ_136 h 12 51 (fun y => y ≤ 12 + 2 * z107_1 + 2)) → V p l e R s m args below meth c 2 D A Q (0, 0) (fd dom σ_136) [(0, .ref h), (1, .int (iI z107_1))] 136 [] := by
        intro σ_136 G_136 F_136 rv136_z107_1 i136
        obtain ⟨z112, z113, z114, z115, z116, h117, r118, r119, r120, r121, r122⟩ := G_136.t.o
        have r123 : z115 ≤ 12 + 2 * z107_1 + 2 := (i136).use h117 (j := 51) rfl (by omega)
        refine v_iinc B (k := 1) (v := iI (z107_1 + 1)) (lv' := [(1, .int (iI (z107_1 + 1))), (0, .ref h)]) dX12_one_136 rfl ((iI_add _ _).trans (congrArg iI (by omega))) (by decide +kernel) rfl ?_
        refine v_goto B (tgt := 107) dX12_one_139 (by decide +kernel) ?_
        refine v_lv [1, 0] rfl ?_
        exact IH107 σ_136 (z107_1 + 1) (by omega) G_136 F_136 ⟨by omega, by omega⟩ ((Fld.mk h117 (j := 51) rfl (by omega) (show z115 ≤ 12 + 2 * (z107_1 + 1) from by omega)))
      obtain ⟨z124, z125, z126, z127, z128, h129, r130, r131, r132, r133, r134⟩ := G_107.t.o
      have r135 : z127 ≤ 12 + 2 * z107_1 := (i107).use h129 (j := 51) rfl (by omega)
      refine v_iload_n B dX12_one_107 rfl rfl ?_
      refine v_iconst B (v := iI 2) dX12_one_108 rfl ?_
      refine u_icmp_ge B (tgt := 142) (by omega) (by omega) dX12_one_109 (by decide +kernel) (fun c136 => ?_) (fun c136 => ?_)
      · refine v_iconst B (v := iI 0) dX12_one_142 rfl ?_
        refine v_istore_n B (lv' := [(1, .int (iI 0)), (0, .ref h)]) dX12_one_143 rfl (by decide +kernel) rfl ?_
        refine v_lv [1, 0] rfl ?_
        exact J144 _ σ_107 0 (Nat.le_refl _) G_107 F_107 ⟨by omega, by omega⟩
      · refine v_aload_n B dX12_one_112 rfl rfl ?_
        refine u_get B Z (C := RX12) (T := TX12) (N := 123) (ci := 12) hi_M_one_X12 Y.o h129 rfl 42 (by decide +kernel) (List.mem_of_getElem? (i := 66) rfl) rfl dX12_one_113 ?_
        refine v_iload_n B dX12_one_116 rfl rfl ?_
        obtain ⟨f137, h138, e139⟩ := ga_42 G_107.t
        obtain ⟨z140, e141, r142⟩ := e139 (z107_1 : Int).toNat
        refine u_zald B Z (t0 := 3) (ym_42 Y) h138 rfl (by omega) e141 dX12_one_117 ?_
        refine u_if_eq B (tgt := 136) (by omega) dX12_one_118 (by decide +kernel) (fun c143 => ?_) (fun c143 => ?_)
        · exact J136 σ_107 G_107 F_107 ⟨by omega, by omega⟩ ((Fld.mk h129 (j := 51) rfl (by omega) (show z127 ≤ 12 + 2 * z107_1 + 2 from by omega)))
        · refine v_aload_n B dX12_one_121 rfl rfl ?_
          refine u_get B Z (C := RX12) (T := TX12) (N := 123) (ci := 12) hi_M_one_X12 Y.o h129 rfl 7 (by decide +kernel) (List.mem_of_getElem? (i := 7) rfl) rfl dX12_one_122 ?_
          refine v_iload_n B dX12_one_125 rfl rfl ?_
          obtain ⟨f144, h145, e146⟩ := ga_7 G_107.t
          obtain ⟨z147, e148, r149⟩ := e146 (z107_1 : Int).toNat
          refine u_iald B Z (t0 := 0) (ym_7 Y) h145 rfl (by omega) e148 dX12_one_126 ?_
          refine v_iconst B (v := iI 4) dX12_one_127 rfl ?_
          refine u_icmp_ne B (tgt := 136) (by omega) (by omega) dX12_one_128 (by decide +kernel) (fun c150 => ?_) (fun c150 => ?_)
          · exact J136 σ_107 G_107 F_107 ⟨by omega, by omega⟩ ((Fld.mk h129 (j := 51) rfl (by omega) (show z127 ≤ 12 + 2 * z107_1 + 2 from by omega)))
          · refine v_aload_n B dX12_one_131 rfl rfl ?_
            refine v_iload_n B dX12_one_132 rfl rfl ?_
            refine u_callVv B Z hz (n := 1) (As := [.int (iI z107_1)]) (rest := []) (c_M_meets l D K Z _ _ _ _ h q Y z107_1 z127 ⟨by omega, by omega⟩ ⟨by omega, by omega⟩ σ_107 G_107 (Fld.mk h129 (j := 51) rfl (by omega) rfl)) gd_M_one_M_meets_669 rfl rfl rfl (by decide +kernel) ⟨Nat.le_trans (by decide +kernel) hR.1, Nat.le_trans (by decide +kernel) hR.2⟩ Y.o (clsM G_107.t) rfl rfl rfl rfl (Nat.le_of_ble_eq_true rfl) dX12_one_133 ⟨Nat.zero_le _, Nat.zero_le _⟩ (fun σ151 p152 => ?_)
            obtain ⟨G155, F156, po154⟩ := p152
            have F157 := F_107.call F156 (by first | rfl | simp)
            obtain ⟨z158, z159, z160, z161, z162, h163, r164, r165, r166, r167, r168⟩ := G155.t.o
            have r169 : z161 ≤ z127 + 2 := po154.use h163 (j := 51) rfl (by omega)
            exact J136 σ151 G155 F157 ⟨by omega, by omega⟩ ((Fld.mk h163 (j := 51) rfl (by omega) (show z161 ≤ 12 + 2 * z107_1 + 2 from by omega)))
  have J48 : ∀ (k48 : Nat) (σ_48 : Nat → va_E) (z48_1 : Int), (2147483648 - z48_1).toNat ≤ k48 → GM K h q σ_48 → Fr τ [(50, 0), (108, 0), (110, 0), (152, 0), (124, 0), (148, 0), (149, 0), (150, 0), (123, 0), (147, 0), (153, 0), (131, 0), (136, 0), (137, 0), (140, 0), (141, 0), (154, 0), (155, 0), (156, 0), (157, 0), (168, 0), (169, 0), (170, 0), (171, 0), (172, 0), (158, 0), (159, 0), (173, 0), (174, 0), (176, 0), (185, 0), (186, 0), (189, 0), (192, 0), (204, 0), (206, 0), (214, 0), (216, 0), (107, 0), (132, 0), (129, 0), (130, 0), (133, 0), (134, 0), (135, 0), (145, 0), (144, 0), (146, 0), (113, 0), (139, 0), (128, 0), (109, 0), (126, 0), (115, 0), (127, 0), (121, 0), (118, 0), (122, 0), (120, 0), (142, 0), (160, 0), (182, 0), (184, 0), (161, 0), (167, 0), (177, 0), (104, 0), (105, 0), (106, 0), (178, 0), (179, 0), (181, 0), (116, 0), (138, 0), (180, 0), (164, 0), (163, 0), (165, 0), (166, 0), (187, 0), (188, 0), (183, 0), (191, 0), (190, 0), (219, 0), (220, 0), (222, 0), (221, 0), (203, 0), (207, 0), (210, 0), (211, 0), (212, 0), (208, 0), (209, 0), (213, 0), (194, 0), (195, 0), (197, 0), (198, 0), (199, 0), (196, 0), (162, 0), (175, 0)] σ0 σ_48 → (0 ≤ z48_1 ∧ z48_1 ≤ 2) → (Fld σ_48 h 12 51 (fun y => y ≤ 12)) → V p l e R s m args below meth c 2 D A Q (0, 0) (fd dom σ_48) [(0, .ref h), (1, .int (iI z48_1))] 48 [] := by
    intro k48
    induction k48 with
    | zero => intro σ_48 z48_1 m48 G_48 F_48 r48_1 i48; omega
    | succ k48 IH48 =>
      intro σ_48 z48_1 m48 G_48 F_48 r48_1 i48
      have J99 : ∀ (σ_99 : Nat → va_E), GM K h q σ_99 → Fr τ [(50, 0), (108, 0), (110, 0), (152, 0), (124, 0), (148, 0), (149, 0), (150, 0), (123, 0), (147, 0), (153, 0), (131, 0), (136, 0), (137, 0), (140, 0), (141, 0), (154, 0), (155, 0), (156, 0), (157, 0), (168, 0), (169, 0), (170, 0), (171, 0), (172, 0), (158, 0), (159, 0), (173, 0), (174, 0), (176, 0), (185, 0), (186, 0), (189, 0), (192, 0), (204, 0), (206, 0), (214, 0), (216, 0), (107, 0), (132, 0), (129, 0), (130, 0), (133, 0), (134, 0), (135, 0), (145, 0), (144, 0), (146, 0), (113, 0), (139, 0), (128, 0), (109, 0), (126, 0), (115, 0), (127, 0), (121, 0), (118, 0), (122, 0), (120, 0), (142, 0), (160, 0), (182, 0), (184, 0), (161, 0), (167, 0), (177, 0), (104, 0), (105, 0), (106, 0), (178, 0), (179, 0), (181, 0), (116, 0), (138, 0), (180, 0), (164, 0), (163, 0), (165, 0), (166, 0), (187, 0), (188, 0), (183, 0), (191, 0), (190, 0), (219, 0), (220, 0), (222, 0), (221, 0), (203, 0), (207, 0), (210, 0), (211, 0), (212, 0), (208, 0), (209, 0), (213, 0), (194, 0), (195, 0), (197, 0), (198, 0), (199, 0), (196, 0), (162, 0), (175, 0)] σ0 σ_99 → (0 ≤ z48_1 ∧ z48_1 ≤ 1) → (Fld σ_99 h 12 51 (fun y => y ≤ 12)) → V p l e R s m args below meth c 2 D A Q (0, 0) (fd dom σ_99) [(0, .ref h), (1, .int (iI z48_1))] 99 [] := by
        intro σ_99 G_99 F_99 rv99_z48_1 i99
        obtain ⟨z170, z171, z172, z173, z174, h175, r176, r177, r178, r179, r180⟩ := G_99.t.o
        have r181 : z173 ≤ 12 := (i99).use h175 (j := 51) rfl (by omega)
        refine v_iinc B (k := 1) (v := iI (z48_1 + 1)) (lv' := [(1, .int (iI (z48_1 + 1))), (0, .ref h)]) dX12_one_99 rfl ((iI_add _ _).trans (congrArg iI (by omega))) (by decide +kernel) rfl ?_
        refine v_goto B (tgt := 48) dX12_one_102 (by decide +kernel) ?_
        refine v_lv [1, 0] rfl ?_
        exact IH48 σ_99 (z48_1 + 1) (by omega) G_99 F_99 ⟨by omega, by omega⟩ ((Fld.mk h175 (j := 51) rfl (by omega) (show z173 ≤ 12 from by omega)))
      obtain ⟨z182, z183, z184, z185, z186, h187, r188, r189, r190, r191, r192⟩ := G_48.t.o
      have r193 : z185 ≤ 12 := (i48).use h187 (j := 51) rfl (by omega)
      refine v_iload_n B dX12_one_48 rfl rfl ?_
      refine v_iconst B (v := iI 2) dX12_one_49 rfl ?_
      refine u_icmp_ge B (tgt := 105) (by omega) (by omega) dX12_one_50 (by decide +kernel) (fun c194 => ?_) (fun c194 => ?_)
      · refine v_iconst B (v := iI 0) dX12_one_105 rfl ?_
        refine v_istore_n B (lv' := [(1, .int (iI 0)), (0, .ref h)]) dX12_one_106 rfl (by decide +kernel) rfl ?_
        refine v_lv [1, 0] rfl ?_
        exact J107 _ σ_48 0 (Nat.le_refl _) G_48 F_48 ⟨by omega, by omega⟩ ((Fld.mk h187 (j := 51) rfl (by omega) (show z185 ≤ 12 + 2 * 0 from by omega)))
      · refine v_aload_n B dX12_one_53 rfl rfl ?_
        refine u_get B Z (C := RX12) (T := TX12) (N := 123) (ci := 12) hi_M_one_X12 Y.o h187 rfl 42 (by decide +kernel) (List.mem_of_getElem? (i := 66) rfl) rfl dX12_one_54 ?_
        refine v_iload_n B dX12_one_57 rfl rfl ?_
        refine v_aload_n B dX12_one_58 rfl rfl ?_
        refine v_iload_n B dX12_one_59 rfl rfl ?_
        refine u_callVi B Z hz (n := 1) (As := [.int (iI z48_1)]) (rest := [.int (iI z48_1), .ref (q 42)]) (c_M_isLinked l D K Z _ _ _ _ h q Y z48_1 ⟨by omega, by omega⟩ σ_48 (G_48.t)) gd_M_one_M_isLinked_662 rfl rfl rfl (by decide +kernel) ⟨Nat.le_trans (by decide +kernel) hR.1, Nat.le_trans (by decide +kernel) hR.2⟩ Y.o (clsM G_48.t) rfl rfl rfl rfl (Nat.le_of_ble_eq_true rfl) dX12_one_60 ⟨Nat.zero_le _, Nat.zero_le _⟩ (fun v197 σ195 p196 => ?_)
        obtain ⟨rfl, z198, e199, r200, po201⟩ := p196
        subst e199
        obtain ⟨f202, h203, e204⟩ := ga_7 G_48.t
        obtain ⟨z205, e206, r207⟩ := e204 (z48_1 : Int).toNat
        have r208 : z198 = 1 → 4 ≤ z205 := fun q => ((po201 q).use h203 e206 (by omega)).1
        refine u_if_eq B (tgt := 83) (by omega) dX12_one_63 (by decide +kernel) (fun c209 => ?_) (fun c209 => ?_)
        · refine v_iconst B (v := iI 0) dX12_one_83 rfl ?_
          obtain ⟨f210, h211, e212⟩ := ga_42 G_48.t
          refine u_zast B Z (t0 := 3) (x := iI 0) (y := iI 0) (ym_42 Y) h211 rfl (by omega) (narZ (by omega)) dX12_one_84 (fun σ213 h214 n215 => ?_)
          have e216 := el_upd (z := 0) e212 ⟨by omega, by omega⟩ (z48_1 : Int).toNat
          have F217 := F_48.put (ym_42 Y) (by simp) n215
          have G218 := gp_42 Y G_48 ⟨_, h214, e216⟩ n215
          refine v_aload_n B dX12_one_85 rfl rfl ?_
          have h219 := (n215 h (ne_ty Y.o (ym_42 Y) (by decide))).trans (h187)
          refine u_get B Z (C := RX12) (T := TX12) (N := 123) (ci := 12) hi_M_one_X12 Y.o h219 rfl 42 (by decide +kernel) (List.mem_of_getElem? (i := 66) rfl) rfl dX12_one_86 ?_
          refine v_iload_n B dX12_one_89 rfl rfl ?_
          refine u_zald B Z (t0 := 3) (ym_42 Y) h214 rfl (by omega) upd_s dX12_one_90 ?_
          refine u_if_eq B (tgt := 99) (by omega) dX12_one_91 (by decide +kernel) (fun c220 => ?_) (fun c220 => by omega)
          exact J99 σ213 G218 F217 ⟨by omega, by omega⟩ ((Fld.mk h219 (j := 51) rfl (by omega) (show z185 ≤ 12 from by omega)))
        · refine v_aload_n B dX12_one_66 rfl rfl ?_
          refine u_get B Z (C := RX12) (T := TX12) (N := 123) (ci := 12) hi_M_one_X12 Y.o h187 rfl 32 (by decide +kernel) (List.mem_of_getElem? (i := 69) rfl) rfl dX12_one_67 ?_
          refine v_iload_n B dX12_one_70 rfl rfl ?_
          obtain ⟨f221, h222, e223⟩ := ga_32 G_48.t
          obtain ⟨z224, e225, r226⟩ := e223 (z48_1 : Int).toNat
          refine u_iald B Z (t0 := 0) (ym_32 Y) h222 rfl (by omega) e225 dX12_one_71 ?_
          refine v_aload_n B dX12_one_72 rfl rfl ?_
          refine u_get B Z (C := RX12) (T := TX12) (N := 123) (ci := 12) hi_M_one_X12 Y.o h187 rfl 43 (by decide +kernel) (List.mem_of_getElem? (i := 1) rfl) rfl dX12_one_73 ?_
          refine u_icmp_ne B (tgt := 83) (by omega) (by omega) dX12_one_76 (by decide +kernel) (fun c227 => ?_) (fun c227 => ?_)
          · refine v_iconst B (v := iI 0) dX12_one_83 rfl ?_
            obtain ⟨f228, h229, e230⟩ := ga_42 G_48.t
            refine u_zast B Z (t0 := 3) (x := iI 0) (y := iI 0) (ym_42 Y) h229 rfl (by omega) (narZ (by omega)) dX12_one_84 (fun σ231 h232 n233 => ?_)
            have e234 := el_upd (z := 0) e230 ⟨by omega, by omega⟩ (z48_1 : Int).toNat
            have F235 := F_48.put (ym_42 Y) (by simp) n233
            have G236 := gp_42 Y G_48 ⟨_, h232, e234⟩ n233
            refine v_aload_n B dX12_one_85 rfl rfl ?_
            have h237 := (n233 h (ne_ty Y.o (ym_42 Y) (by decide))).trans (h187)
            refine u_get B Z (C := RX12) (T := TX12) (N := 123) (ci := 12) hi_M_one_X12 Y.o h237 rfl 42 (by decide +kernel) (List.mem_of_getElem? (i := 66) rfl) rfl dX12_one_86 ?_
            refine v_iload_n B dX12_one_89 rfl rfl ?_
            refine u_zald B Z (t0 := 3) (ym_42 Y) h232 rfl (by omega) upd_s dX12_one_90 ?_
            refine u_if_eq B (tgt := 99) (by omega) dX12_one_91 (by decide +kernel) (fun c238 => ?_) (fun c238 => by omega)
            exact J99 σ231 G236 F235 ⟨by omega, by omega⟩ ((Fld.mk h237 (j := 51) rfl (by omega) (show z185 ≤ 12 from by omega)))
          · refine v_iconst B (v := iI 1) dX12_one_79 rfl ?_
            refine v_goto B (tgt := 84) dX12_one_80 (by decide +kernel) ?_
            obtain ⟨f239, h240, e241⟩ := ga_42 G_48.t
            refine u_zast B Z (t0 := 3) (x := iI 1) (y := iI 1) (ym_42 Y) h240 rfl (by omega) (narZ (by omega)) dX12_one_84 (fun σ242 h243 n244 => ?_)
            have e245 := el_upd (z := 1) e241 ⟨by omega, by omega⟩ (z48_1 : Int).toNat
            have F246 := F_48.put (ym_42 Y) (by simp) n244
            have G247 := gp_42 Y G_48 ⟨_, h243, e245⟩ n244
            refine v_aload_n B dX12_one_85 rfl rfl ?_
            have h248 := (n244 h (ne_ty Y.o (ym_42 Y) (by decide))).trans (h187)
            refine u_get B Z (C := RX12) (T := TX12) (N := 123) (ci := 12) hi_M_one_X12 Y.o h248 rfl 42 (by decide +kernel) (List.mem_of_getElem? (i := 66) rfl) rfl dX12_one_86 ?_
            refine v_iload_n B dX12_one_89 rfl rfl ?_
            refine u_zald B Z (t0 := 3) (ym_42 Y) h243 rfl (by omega) upd_s dX12_one_90 ?_
            refine u_if_eq B (tgt := 99) (by omega) dX12_one_91 (by decide +kernel) (fun c249 => by omega) (fun c249 => ?_)
            refine v_aload_n B dX12_one_94 rfl rfl ?_
            refine v_iload_n B dX12_one_95 rfl rfl ?_
            have h250 := (n244 (q 7) (ne_ty (ym_7 Y) (ym_42 Y) (by decide))).trans (h203)
            refine u_callVv B Z hz (n := 1) (As := [.int (iI z48_1)]) (rest := []) (c_M_hops l D K Z _ _ _ _ h q Y z48_1 ⟨by omega, by omega⟩ σ242 G247 (At.mk h250 e206 (by omega) ⟨by omega, by omega⟩)) gd_M_one_M_hops_666 rfl rfl rfl (by decide +kernel) ⟨Nat.le_trans (by decide +kernel) hR.1, Nat.le_trans (by decide +kernel) hR.2⟩ Y.o (clsM G247.t) rfl rfl rfl rfl (Nat.le_of_ble_eq_true rfl) dX12_one_96 ⟨Nat.zero_le _, Nat.zero_le _⟩ (fun σ251 p252 => ?_)
            obtain ⟨G254, F255⟩ := p252
            have F256 := F246.call F255 (by first | rfl | simp)
            have h257 := (F255 h _ Y.o (by first | rfl | simp)).trans (h248)
            exact J99 σ251 G254 F256 ⟨by omega, by omega⟩ ((Fld.mk h257 (j := 51) rfl (by omega) (show z185 ≤ 12 from by omega)))
  have J7 : ∀ (k7 : Nat) (σ_7 : Nat → va_E) (z7_1 : Int), (2147483648 - z7_1).toNat ≤ k7 → GM K h q σ_7 → Fr τ [(50, 0), (108, 0), (110, 0), (152, 0), (124, 0), (148, 0), (149, 0), (150, 0), (123, 0), (147, 0), (153, 0), (131, 0), (136, 0), (137, 0), (140, 0), (141, 0), (154, 0), (155, 0), (156, 0), (157, 0), (168, 0), (169, 0), (170, 0), (171, 0), (172, 0), (158, 0), (159, 0), (173, 0), (174, 0), (176, 0), (185, 0), (186, 0), (189, 0), (192, 0), (204, 0), (206, 0), (214, 0), (216, 0), (107, 0), (132, 0), (129, 0), (130, 0), (133, 0), (134, 0), (135, 0), (145, 0), (144, 0), (146, 0), (113, 0), (139, 0), (128, 0), (109, 0), (126, 0), (115, 0), (127, 0), (121, 0), (118, 0), (122, 0), (120, 0), (142, 0), (160, 0), (182, 0), (184, 0), (161, 0), (167, 0), (177, 0), (104, 0), (105, 0), (106, 0), (178, 0), (179, 0), (181, 0), (116, 0), (138, 0), (180, 0), (164, 0), (163, 0), (165, 0), (166, 0), (187, 0), (188, 0), (183, 0), (191, 0), (190, 0), (219, 0), (220, 0), (222, 0), (221, 0), (203, 0), (207, 0), (210, 0), (211, 0), (212, 0), (208, 0), (209, 0), (213, 0), (194, 0), (195, 0), (197, 0), (198, 0), (199, 0), (196, 0), (162, 0), (175, 0)] σ0 σ_7 → (0 ≤ z7_1 ∧ z7_1 ≤ 2) → (Fld σ_7 h 12 51 (fun y => y ≤ 6 * z7_1)) → V p l e R s m args below meth c 2 D A Q (0, 0) (fd dom σ_7) [(0, .ref h), (1, .int (iI z7_1))] 7 [] := by
    intro k7
    induction k7 with
    | zero => intro σ_7 z7_1 m7 G_7 F_7 r7_1 i7; omega
    | succ k7 IH7 =>
      intro σ_7 z7_1 m7 G_7 F_7 r7_1 i7
      have J40 : ∀ (σ_40 : Nat → va_E), GM K h q σ_40 → Fr τ [(50, 0), (108, 0), (110, 0), (152, 0), (124, 0), (148, 0), (149, 0), (150, 0), (123, 0), (147, 0), (153, 0), (131, 0), (136, 0), (137, 0), (140, 0), (141, 0), (154, 0), (155, 0), (156, 0), (157, 0), (168, 0), (169, 0), (170, 0), (171, 0), (172, 0), (158, 0), (159, 0), (173, 0), (174, 0), (176, 0), (185, 0), (186, 0), (189, 0), (192, 0), (204, 0), (206, 0), (214, 0), (216, 0), (107, 0), (132, 0), (129, 0), (130, 0), (133, 0), (134, 0), (135, 0), (145, 0), (144, 0), (146, 0), (113, 0), (139, 0), (128, 0), (109, 0), (126, 0), (115, 0), (127, 0), (121, 0), (118, 0), (122, 0), (120, 0), (142, 0), (160, 0), (182, 0), (184, 0), (161, 0), (167, 0), (177, 0), (104, 0), (105, 0), (106, 0), (178, 0), (179, 0), (181, 0), (116, 0), (138, 0), (180, 0), (164, 0), (163, 0), (165, 0), (166, 0), (187, 0), (188, 0), (183, 0), (191, 0), (190, 0), (219, 0), (220, 0), (222, 0), (221, 0), (203, 0), (207, 0), (210, 0), (211, 0), (212, 0), (208, 0), (209, 0), (213, 0), (194, 0), (195, 0), (197, 0), (198, 0), (199, 0), (196, 0), (162, 0), (175, 0)] σ0 σ_40 → (0 ≤ z7_1 ∧ z7_1 ≤ 1) → (Fld σ_40 h 12 51 (fun y => y ≤ 6 * z7_1 + 6)) → V p l e R s m args below meth c 2 D A Q (0, 0) (fd dom σ_40) [(0, .ref h), (1, .int (iI z7_1))] 40 [] := by
        intro σ_40 G_40 F_40 rv40_z7_1 i40
        obtain ⟨z258, z259, z260, z261, z262, h263, r264, r265, r266, r267, r268⟩ := G_40.t.o
        have r269 : z261 ≤ 6 * z7_1 + 6 := (i40).use h263 (j := 51) rfl (by omega)
        refine v_iinc B (k := 1) (v := iI (z7_1 + 1)) (lv' := [(1, .int (iI (z7_1 + 1))), (0, .ref h)]) dX12_one_40 rfl ((iI_add _ _).trans (congrArg iI (by omega))) (by decide +kernel) rfl ?_
        refine v_goto B (tgt := 7) dX12_one_43 (by decide +kernel) ?_
        refine v_lv [1, 0] rfl ?_
        exact IH7 σ_40 (z7_1 + 1) (by omega) G_40 F_40 ⟨by omega, by omega⟩ ((Fld.mk h263 (j := 51) rfl (by omega) (show z261 ≤ 6 * (z7_1 + 1) from by omega)))
      obtain ⟨z270, z271, z272, z273, z274, h275, r276, r277, r278, r279, r280⟩ := G_7.t.o
      have r281 : z273 ≤ 6 * z7_1 := (i7).use h275 (j := 51) rfl (by omega)
      refine v_iload_n B dX12_one_7 rfl rfl ?_
      refine v_iconst B (v := iI 2) dX12_one_8 rfl ?_
      refine u_icmp_ge B (tgt := 46) (by omega) (by omega) dX12_one_9 (by decide +kernel) (fun c282 => ?_) (fun c282 => ?_)
      · refine v_iconst B (v := iI 0) dX12_one_46 rfl ?_
        refine v_istore_n B (lv' := [(1, .int (iI 0)), (0, .ref h)]) dX12_one_47 rfl (by decide +kernel) rfl ?_
        refine v_lv [1, 0] rfl ?_
        exact J48 _ σ_7 0 (Nat.le_refl _) G_7 F_7 ⟨by omega, by omega⟩ ((Fld.mk h275 (j := 51) rfl (by omega) (show z273 ≤ 12 from by omega)))
      · refine v_aload_n B dX12_one_12 rfl rfl ?_
        refine u_get B Z (C := RX12) (T := TX12) (N := 123) (ci := 12) hi_M_one_X12 Y.o h275 rfl 7 (by decide +kernel) (List.mem_of_getElem? (i := 7) rfl) rfl dX12_one_13 ?_
        refine v_iload_n B dX12_one_16 rfl rfl ?_
        obtain ⟨f283, h284, e285⟩ := ga_7 G_7.t
        obtain ⟨z286, e287, r288⟩ := e285 (z7_1 : Int).toNat
        refine u_iald B Z (t0 := 0) (ym_7 Y) h284 rfl (by omega) e287 dX12_one_17 ?_
        refine v_iconst B (v := iI 1) dX12_one_18 rfl ?_
        refine u_icmp_ne B (tgt := 40) (by omega) (by omega) dX12_one_19 (by decide +kernel) (fun c289 => ?_) (fun c289 => ?_)
        · exact J40 σ_7 G_7 F_7 ⟨by omega, by omega⟩ ((Fld.mk h275 (j := 51) rfl (by omega) (show z273 ≤ 6 * z7_1 + 6 from by omega)))
        · refine v_aload_n B dX12_one_22 rfl rfl ?_
          refine u_get B Z (C := RX12) (T := TX12) (N := 123) (ci := 12) hi_M_one_X12 Y.o h275 rfl 10 (by decide +kernel) (List.mem_of_getElem? (i := 413) rfl) rfl dX12_one_23 ?_
          refine v_iload_n B dX12_one_26 rfl rfl ?_
          obtain ⟨f290, h291, e292⟩ := ga_10 G_7.t
          obtain ⟨z293, e294, r295⟩ := e292 (z7_1 : Int).toNat
          refine u_iald B Z (t0 := 0) (ym_10 Y) h291 rfl (by omega) e294 dX12_one_27 ?_
          refine v_aload_n B dX12_one_28 rfl rfl ?_
          refine u_get B Z (C := RX12) (T := TX12) (N := 123) (ci := 12) hi_M_one_X12 Y.o h275 rfl 43 (by decide +kernel) (List.mem_of_getElem? (i := 1) rfl) rfl dX12_one_29 ?_
          refine u_icmp_ne B (tgt := 40) (by omega) (by omega) dX12_one_32 (by decide +kernel) (fun c296 => ?_) (fun c296 => ?_)
          · exact J40 σ_7 G_7 F_7 ⟨by omega, by omega⟩ ((Fld.mk h275 (j := 51) rfl (by omega) (show z273 ≤ 6 * z7_1 + 6 from by omega)))
          · refine v_aload_n B dX12_one_35 rfl rfl ?_
            refine v_iload_n B dX12_one_36 rfl rfl ?_
            refine u_callVv B Z hz (n := 1) (As := [.int (iI z7_1)]) (rest := []) (c_M_advertises l D K Z _ _ _ _ h q Y z7_1 z273 ⟨by omega, by omega⟩ ⟨by omega, by omega⟩ σ_7 G_7 (Fld.mk h275 (j := 51) rfl (by omega) rfl)) gd_M_one_M_advertises_659 rfl rfl rfl (by decide +kernel) ⟨Nat.le_trans (by decide +kernel) hR.1, Nat.le_trans (by decide +kernel) hR.2⟩ Y.o (clsM G_7.t) rfl rfl rfl rfl (Nat.le_of_ble_eq_true rfl) dX12_one_37 ⟨Nat.zero_le _, Nat.zero_le _⟩ (fun σ297 p298 => ?_)
            obtain ⟨G301, F302, po300⟩ := p298
            have F303 := F_7.call F302 (by first | rfl | simp)
            obtain ⟨z304, z305, z306, z307, z308, h309, r310, r311, r312, r313, r314⟩ := G301.t.o
            have r315 : z307 ≤ z273 + 6 := po300.use h309 (j := 51) rfl (by omega)
            exact J40 σ297 G301 F303 ⟨by omega, by omega⟩ ((Fld.mk h309 (j := 51) rfl (by omega) (show z307 ≤ 6 * z7_1 + 6 from by omega)))
  refine v_aload_n B dX12_one_0 rfl rfl ?_
  refine v_iconst B (v := iI 0) dX12_one_1 rfl ?_
  refine u_put B Z (C := RX12) (T := TX12) (N := 123) (ci := 12) hi_M_one_X12 Y.o h6 rfl 51 (by decide +kernel) tyX12 tyX12_ok nmX12 (List.mem_of_getElem? (i := 94) rfl) rfl (ty := .int) (tyX12_ok 51 (by decide +kernel)) rfl rfl (Nat.le_of_ble_eq_true rfl) (fs' := fsM q (iI z1) (iI z2) (iI z3) (iI 0) (iI z5)) rfl dX12_one_2 (fun σ316 h317 n318 => ?_)
  have F319 := F0.put Y.o (by simp) n318
  have G320 := G0.putO Y ⟨z1, z2, z3, 0, z5, h317, ⟨by omega, by omega⟩, ⟨by omega, by omega⟩, ⟨by omega, by omega⟩, ⟨by omega, by omega⟩, ⟨by omega, by omega⟩⟩ n318
  refine v_iconst B (v := iI 0) dX12_one_5 rfl ?_
  refine v_istore_n B (lv' := [(1, .int (iI 0)), (0, .ref h)]) dX12_one_6 rfl (by decide +kernel) rfl ?_
  refine v_lv [1, 0] rfl ?_
  exact J7 _ σ316 0 (Nat.le_refl _) G320 F319 ⟨by omega, by omega⟩ ((Fld.mk h317 (j := 51) rfl (by omega) (show 0 ≤ 6 * 0 from by omega)))
set_option maxRecDepth 100000 in
theorem c_M_one (l : Launch) (D : va_G) (K : Nat → ClassId) {τ : Nat → Option Ty} {dom : List Nat} (Z : Sk τ dom) (zb zL : Nat) (zx : Nat → Int32) (zs : Nat → Nat) (h : Nat) (q : Nat → Nat) (Y : MS τ h q)   (σ0 : Nat → va_E) (G0 : GM K h q σ0) : MZ l yX12_one wp_M_one ({ frames := 11, cells := 0, slots := 0, locals := 270 }) D (tysA K) [.ref h] (fd dom σ0) zb zL zx zs (Qv D (fun σ' => GM K h q σ' ∧ Fr τ [(50, 0), (108, 0), (110, 0), (152, 0), (124, 0), (148, 0), (149, 0), (150, 0), (123, 0), (147, 0), (153, 0), (131, 0), (136, 0), (137, 0), (140, 0), (141, 0), (154, 0), (155, 0), (156, 0), (157, 0), (168, 0), (169, 0), (170, 0), (171, 0), (172, 0), (158, 0), (159, 0), (173, 0), (174, 0), (176, 0), (185, 0), (186, 0), (189, 0), (192, 0), (204, 0), (206, 0), (214, 0), (216, 0), (107, 0), (132, 0), (129, 0), (130, 0), (133, 0), (134, 0), (135, 0), (145, 0), (144, 0), (146, 0), (113, 0), (139, 0), (128, 0), (109, 0), (126, 0), (115, 0), (127, 0), (121, 0), (118, 0), (122, 0), (120, 0), (142, 0), (160, 0), (182, 0), (184, 0), (161, 0), (167, 0), (177, 0), (104, 0), (105, 0), (106, 0), (178, 0), (179, 0), (181, 0), (116, 0), (138, 0), (180, 0), (164, 0), (163, 0), (165, 0), (166, 0), (187, 0), (188, 0), (183, 0), (191, 0), (190, 0), (219, 0), (220, 0), (222, 0), (221, 0), (203, 0), (207, 0), (210, 0), (211, 0), (212, 0), (208, 0), (209, 0), (213, 0), (194, 0), (195, 0), (197, 0), (198, 0), (199, 0), (196, 0), (162, 0), (175, 0)] σ0 σ') (fun σ' => fd dom σ')) 0 0 := by
  refine mz_of (cc := cX12_one) (maxL := 2) (ret := none) (by decide +kernel) rfl (Nat.le_of_ble_eq_true rfl) ?_
  intro p e s m below meth c A B hr hlk _ hz
  exact b_M_one ⟨Nat.le_refl _, Nat.le_refl _⟩ B Z hz h q Y  σ0 G0 (fun σ' lv pc G F hd => v_vret B hr hlk σ' ⟨G, F⟩ rfl (Nat.le_refl _) (Nat.le_refl _) hd)

def wp_M_tick : List Cond := .code yX12_tick cX12_tick 4 (some .int) :: (([.fieldLink RX12 1 "LowEnergyModel" "thrown" "I", .methodLink RX12 675 yX12_one, .instanceMethod yX12_one, .selects RX12 yX12_one yX12_one, .initialized RX12, .code yX12_one cX12_one 2 none, .fieldLink RX12 470 "LowEnergyModel" "t" "I", .methodLink RX12 662 yX12_isLinked, .instanceMethod yX12_isLinked, .selects RX12 yX12_isLinked yX12_isLinked, .code yX12_isLinked cX12_isLinked 2 (some .boolean), .fieldLink RX12 45 "LowEnergyModel" "state" "[I", .methodLink RX12 672 yX12_looks, .instanceMethod yX12_looks, .selects RX12 yX12_looks yX12_looks, .code yX12_looks cX12_looks 4 none, .fieldLink RX12 133 "LowEnergyModel" "reason" "[I", .methodLink RX12 391 yX12_fresh, .instanceMethod yX12_fresh, .selects RX12 yX12_fresh yX12_fresh, .code yX12_fresh cX12_fresh 2 none, .fieldLink RX12 118 "LowEnergyModel" "channel" "[I", .fieldLink RX12 136 "LowEnergyModel" "ending" "[I", .fieldLink RX12 145 "LowEnergyModel" "hasGood" "[Z", .fieldLink RX12 149 "LowEnergyModel" "mapWaits" "[Z", .fieldLink RX12 182 "LowEnergyModel" "currentSort" "[I", .fieldLink RX12 185 "LowEnergyModel" "currentMany" "[I", .fieldLink RX12 188 "LowEnergyModel" "currentOp" "[I", .fieldLink RX12 191 "LowEnergyModel" "controls" "[I", .fieldLink RX12 224 "LowEnergyModel" "held" "[Z", .fieldLink RX12 227 "LowEnergyModel" "asked" "[Z", .fieldLink RX12 230 "LowEnergyModel" "hasFour" "[Z", .fieldLink RX12 233 "LowEnergyModel" "sealsOut" "[Z", .fieldLink RX12 236 "LowEnergyModel" "sealsIn" "[Z", .fieldLink RX12 194 "LowEnergyModel" "out" "[I", .fieldLink RX12 197 "LowEnergyModel" "opened" "[I", .fieldLink RX12 239 "LowEnergyModel" "isSecure" "[Z", .fieldLink RX12 242 "LowEnergyModel" "hasSession" "[Z", .fieldLink RX12 248 "LowEnergyModel" "toldVersion" "[Z", .fieldLink RX12 275 "LowEnergyModel" "messages" "[I", .fieldLink RX12 278 "LowEnergyModel" "taken" "[I", .fieldLink RX12 287 "LowEnergyModel" "begun" "[Z", .fieldLink RX12 296 "LowEnergyModel" "step" "[I", .fieldLink RX12 332 "LowEnergyModel" "mtu" "[I", .fieldLink RX12 338 "LowEnergyModel" "parts" "[I", .fieldLink RX12 362 "LowEnergyModel" "waits30" "[Z", .fieldLink RX12 365 "LowEnergyModel" "job" "[I", .methodLink RX12 504 yX12_complete_, .instanceMethod yX12_complete_, .selects RX12 yX12_complete_ yX12_complete_, .code yX12_complete_ cX12_complete_ 6 none, .fieldLink RX12 10 "LowEnergyModel" "tape" "[B", .methodLink RX12 409 yX12_complete, .instanceMethod yX12_complete, .selects RX12 yX12_complete yX12_complete, .code yX12_complete cX12_complete 11 none, .fieldLink RX12 155 "LowEnergyModel" "kept" "[I", .fieldLink RX12 158 "LowEnergyModel" "keptMany" "[I", .methodLink RX12 404 Lib.Math.min.name, .static Lib.Math.min.name, .initialized "java/lang/Math", .code Lib.Math.min.name Lib.Math.min.code 2 (some .int), .fieldLink RX12 161 "LowEnergyModel" "notKept" "[I", .fieldLink RX12 103 "LowEnergyModel" "timeout" "[I", .methodLink RX12 459 yX12_reasons, .instanceMethod yX12_reasons, .selects RX12 yX12_reasons yX12_reasons, .code yX12_reasons cX12_reasons 3 none, .fieldLink RX12 130 "LowEnergyModel" "heardAt" "[I", .fieldLink RX12 51 "LowEnergyModel" "interval" "[I", .fieldLink RX12 152 "LowEnergyModel" "mine" "[Z", .fieldLink RX12 112 "LowEnergyModel" "event" "[I", .constant RX12 493 (65535), .fieldLink RX12 121 "LowEnergyModel" "anchor" "[I", .methodLink RX12 669 yX12_meets, .instanceMethod yX12_meets, .selects RX12 yX12_meets yX12_meets, .code yX12_meets cX12_meets 4 none, .methodLink RX12 653 yX12_sendsLink, .instanceMethod yX12_sendsLink, .selects RX12 yX12_sendsLink yX12_sendsLink, .code yX12_sendsLink cX12_sendsLink 2 (some .int), .fieldLink RX12 200 "LowEnergyModel" "current" "[B", .fieldLink RX12 176 "LowEnergyModel" "sending" "[B", .methodLink RX12 29 yX12_copy, .static yX12_copy, .code yX12_copy cX12_copy 6 none, .fieldLink RX12 142 "LowEnergyModel" "access" "[B", .fieldLink RX12 109 "LowEnergyModel" "init" "[I", .fieldLink RX12 127 "LowEnergyModel" "nesn" "[I", .fieldLink RX12 124 "LowEnergyModel" "sn" "[I", .methodLink RX12 466 yX12_sends, .instanceMethod yX12_sends, .selects RX12 yX12_sends yX12_sends, .code yX12_sends cX12_sends 11 (some .int), .fieldLink RX12 164 "LowEnergyModel" "air" "[B", .fieldLink RX12 94 "LowEnergyModel" "lost" "[I", .fieldLink RX12 97 "LowEnergyModel" "noises" "[I", .fieldLink RX12 429 "LowEnergyModel" "packets" "I", .fieldLink RX12 167 "LowEnergyModel" "airMany" "[I", .fieldLink RX12 170 "LowEnergyModel" "airChannel" "[I", .fieldLink RX12 173 "LowEnergyModel" "airLost" "[Z", .fieldLink RX12 100 "LowEnergyModel" "noise" "[I", .methodLink RX12 425 yX12_whiten, .static yX12_whiten, .code yX12_whiten cX12_whiten 7 none, .methodLink RX12 422 yX12_crcByte, .static yX12_crcByte, .code yX12_crcByte cX12_crcByte 4 (some .int), .methodLink RX12 418 yX12_crc, .static yX12_crc, .code yX12_crc cX12_crc 7 (some .int), .constant RX12 417 (16777215), .methodLink RX12 463 yX12_takesNext, .instanceMethod yX12_takesNext, .selects RX12 yX12_takesNext yX12_takesNext, .code yX12_takesNext cX12_takesNext 4 none, .methodLink RX12 451 yX12_macs, .instanceMethod yX12_macs, .selects RX12 yX12_macs yX12_macs, .code yX12_macs cX12_macs 10 none, .fieldLink RX12 254 "LowEnergyModel" "mac" "[B", .fieldLink RX12 257 "LowEnergyModel" "stream" "[B", .fieldLink RX12 209 "LowEnergyModel" "session" "[B", .methodLink RX12 444 yX12_e, .instanceMethod yX12_e, .selects RX12 yX12_e yX12_e, .code yX12_e cX12_e 13 none, .fieldLink RX12 33 "LowEnergyModel" "cells" "[B", .fieldLink RX12 26 "LowEnergyModel" "round" "[B", .fieldLink RX12 36 "LowEnergyModel" "moved" "[B", .methodLink RX12 14 yX12_twice, .static yX12_twice, .code yX12_twice cX12_twice 1 (some .int), .fieldLink RX12 22 "LowEnergyModel" "box" "[I", .methodLink RX12 440 yX12_nonce, .instanceMethod yX12_nonce, .selects RX12 yX12_nonce yX12_nonce, .code yX12_nonce cX12_nonce 7 none, .fieldLink RX12 251 "LowEnergyModel" "block" "[B", .methodLink RX12 432 yX12_number, .static yX12_number, .code yX12_number cX12_number 6 none, .fieldLink RX12 212 "LowEnergyModel" "iv" "[B", .methodLink RX12 455 yX12_turns, .instanceMethod yX12_turns, .selects RX12 yX12_turns yX12_turns, .code yX12_turns cX12_turns 9 none, .fieldLink RX12 203 "LowEnergyModel" "control" "[B", .fieldLink RX12 221 "LowEnergyModel" "controlMany" "[I", .fieldLink RX12 272 "LowEnergyModel" "messageMany" "[I", .fieldLink RX12 266 "LowEnergyModel" "message" "[B", .methodLink RX12 448 yX12_drops, .instanceMethod yX12_drops, .selects RX12 yX12_drops yX12_drops, .code yX12_drops cX12_drops 4 none, .methodLink RX12 640 yX12_isHeard, .instanceMethod yX12_isHeard, .selects RX12 yX12_isHeard yX12_isHeard, .code yX12_isHeard cX12_isHeard 7 (some .boolean), .methodLink RX12 644 yX12_isGood, .instanceMethod yX12_isGood, .selects RX12 yX12_isGood yX12_isGood, .code yX12_isGood cX12_isGood 6 (some .boolean), .fieldLink RX12 179 "LowEnergyModel" "got" "[B", .methodLink RX12 656 yX12_takesGood, .instanceMethod yX12_takesGood, .selects RX12 yX12_takesGood yX12_takesGood, .code yX12_takesGood cX12_takesGood 8 none, .methodLink RX12 476 yX12_pieces, .instanceMethod yX12_pieces, .selects RX12 yX12_pieces yX12_pieces, .code yX12_pieces cX12_pieces 7 none, .fieldLink RX12 269 "LowEnergyModel" "whole" "[B", .fieldLink RX12 293 "LowEnergyModel" "asks" "[B", .methodLink RX12 525 yX12_attributes, .instanceMethod yX12_attributes, .selects RX12 yX12_attributes yX12_attributes, .code yX12_attributes cX12_attributes 4 none, .methodLink RX12 562 yX12_asked, .instanceMethod yX12_asked, .selects RX12 yX12_asked yX12_asked, .code yX12_asked cX12_asked 7 none, .methodLink RX12 590 yX12_reads, .instanceMethod yX12_reads, .selects RX12 yX12_reads yX12_reads, .code yX12_reads cX12_reads 9 none, .methodLink RX12 564 yX12_error, .instanceMethod yX12_error, .selects RX12 yX12_error yX12_error, .code yX12_error cX12_error 5 none, .fieldLink RX12 290 "LowEnergyModel" "said" "[B", .methodLink RX12 527 yX12_says, .instanceMethod yX12_says, .selects RX12 yX12_says yX12_says, .code yX12_says cX12_says 5 none, .fieldLink RX12 329 "LowEnergyModel" "length" "[I", .fieldLink RX12 341 "LowEnergyModel" "values" "[B", .methodLink RX12 570 yX12_lacks, .instanceMethod yX12_lacks, .selects RX12 yX12_lacks yX12_lacks, .code yX12_lacks cX12_lacks 5 (some .int), .fieldLink RX12 326 "LowEnergyModel" "rights" "[I", .methodLink RX12 547 yX12_row, .instanceMethod yX12_row, .selects RX12 yX12_row yX12_row, .code yX12_row cX12_row 3 (some .int), .methodLink RX12 567 yX12_isHandle, .instanceMethod yX12_isHandle, .selects RX12 yX12_isHandle yX12_isHandle, .code yX12_isHandle cX12_isHandle 3 (some .boolean), .fieldLink RX12 320 "LowEnergyModel" "attributes" "[I", .methodLink RX12 593 yX12_writing, .instanceMethod yX12_writing, .selects RX12 yX12_writing yX12_writing, .code yX12_writing cX12_writing 8 none, .fieldLink RX12 350 "LowEnergyModel" "partHandle" "[I", .fieldLink RX12 353 "LowEnergyModel" "partPlace" "[I", .fieldLink RX12 356 "LowEnergyModel" "partMany" "[I", .fieldLink RX12 344 "LowEnergyModel" "partBytes" "[B", .methodLink RX12 574 yX12_writes, .instanceMethod yX12_writes, .selects RX12 yX12_writes yX12_writes, .code yX12_writes cX12_writes 4 none, .methodLink RX12 587 yX12_executes, .instanceMethod yX12_executes, .selects RX12 yX12_executes yX12_executes, .code yX12_executes cX12_executes 9 none, .fieldLink RX12 359 "LowEnergyModel" "trialLength" "[I", .fieldLink RX12 347 "LowEnergyModel" "trial" "[B", .methodLink RX12 596 Lib.Math.max.name, .static Lib.Math.max.name, .code Lib.Math.max.name Lib.Math.max.code 2 (some .int), .methodLink RX12 584 yX12_mtus, .instanceMethod yX12_mtus, .selects RX12 yX12_mtus yX12_mtus, .code yX12_mtus cX12_mtus 3 none, .fieldLink RX12 335 "LowEnergyModel" "ownMtu" "[I", .methodLink RX12 581 yX12_lists, .instanceMethod yX12_lists, .selects RX12 yX12_lists yX12_lists, .code yX12_lists cX12_lists 16 none, .methodLink RX12 603 yX12_endOf, .instanceMethod yX12_endOf, .selects RX12 yX12_endOf yX12_endOf, .code yX12_endOf cX12_endOf 4 (some .int), .fieldLink RX12 323 "LowEnergyModel" "type" "[I", .methodLink RX12 599 yX12_isValue, .instanceMethod yX12_isValue, .selects RX12 yX12_isValue yX12_isValue, .code yX12_isValue cX12_isValue 8 (some .boolean), .methodLink RX12 489 yX12_two, .static yX12_two, .code yX12_two cX12_two 2 (some .int), .methodLink RX12 577 yX12_hasBytes, .instanceMethod yX12_hasBytes, .selects RX12 yX12_hasBytes yX12_hasBytes, .code yX12_hasBytes cX12_hasBytes 4 (some .boolean), .methodLink RX12 556 yX12_toldOf, .instanceMethod yX12_toldOf, .selects RX12 yX12_toldOf yX12_toldOf, .code yX12_toldOf cX12_toldOf 4 none, .methodLink RX12 559 yX12_writesAlone, .instanceMethod yX12_writesAlone, .selects RX12 yX12_writesAlone yX12_writesAlone, .code yX12_writesAlone cX12_writesAlone 4 none, .methodLink RX12 553 yX12_confirmed, .instanceMethod yX12_confirmed, .selects RX12 yX12_confirmed yX12_confirmed, .code yX12_confirmed cX12_confirmed 3 none, .methodLink RX12 550 yX12_answered, .instanceMethod yX12_answered, .selects RX12 yX12_answered yX12_answered, .code yX12_answered cX12_answered 6 none, .fieldLink RX12 377 "LowEnergyModel" "place" "[I", .fieldLink RX12 380 "LowEnergyModel" "jobMany" "[I", .fieldLink RX12 368 "LowEnergyModel" "jobA" "[I", .fieldLink RX12 383 "LowEnergyModel" "jobBytes" "[B", .methodLink RX12 621 yX12_ends, .instanceMethod yX12_ends, .selects RX12 yX12_ends yX12_ends, .code yX12_ends cX12_ends 3 none, .methodLink RX12 630 yX12_asksFor, .instanceMethod yX12_asksFor, .selects RX12 yX12_asksFor yX12_asksFor, .code yX12_asksFor cX12_asksFor 3 none, .methodLink RX12 606 yX12_request, .instanceMethod yX12_request, .selects RX12 yX12_request yX12_request, .code yX12_request cX12_request 4 none, .fieldLink RX12 374 "LowEnergyModel" "due" "[I", .constantLong RX12 609 (65535), .constantLong RX12 611 (10240), .fieldLink RX12 371 "LowEnergyModel" "jobB" "[I", .constantLong RX12 613 (10243), .methodLink RX12 615 yX12_asksToWrite, .instanceMethod yX12_asksToWrite, .selects RX12 yX12_asksToWrite yX12_asksToWrite, .code yX12_asksToWrite cX12_asksToWrite 3 none, .methodLink RX12 624 yX12_isAnswer, .instanceMethod yX12_isAnswer, .selects RX12 yX12_isAnswer yX12_isAnswer, .code yX12_isAnswer cX12_isAnswer 3 (some .boolean), .methodLink RX12 618 yX12_areRows, .static yX12_areRows, .code yX12_areRows cX12_areRows 4 (some .boolean), .methodLink RX12 627 yX12_rows, .instanceMethod yX12_rows, .selects RX12 yX12_rows yX12_rows, .code yX12_rows cX12_rows 11 none, .methodLink RX12 522 yX12_pairs, .instanceMethod yX12_pairs, .selects RX12 yX12_pairs yX12_pairs, .code yX12_pairs cX12_pairs 8 none, .methodLink RX12 531 yX12_fails, .instanceMethod yX12_fails, .selects RX12 yX12_fails yX12_fails, .code yX12_fails cX12_fails 4 none, .fieldLink RX12 317 "LowEnergyModel" "pair" "[B", .fieldLink RX12 311 "LowEnergyModel" "ownRandom" "[B", .fieldLink RX12 314 "LowEnergyModel" "tkRow" "[B", .fieldLink RX12 206 "LowEnergyModel" "key" "[B", .fieldLink RX12 245 "LowEnergyModel" "hasKey" "[Z", .methodLink RX12 540 yX12_saysRow, .instanceMethod yX12_saysRow, .selects RX12 yX12_saysRow yX12_saysRow, .code yX12_saysRow cX12_saysRow 5 none, .fieldLink RX12 308 "LowEnergyModel" "confirm" "[B", .methodLink RX12 544 yX12_c, .instanceMethod yX12_c, .selects RX12 yX12_c yX12_c, .code yX12_c cX12_c 9 none, .fieldLink RX12 60 "LowEnergyModel" "address" "[J", .fieldLink RX12 64 "LowEnergyModel" "peer" "[J", .fieldLink RX12 305 "LowEnergyModel" "firstTwo" "[B", .fieldLink RX12 302 "LowEnergyModel" "tk" "[I", .methodLink RX12 537 yX12_tells, .instanceMethod yX12_tells, .selects RX12 yX12_tells yX12_tells, .code yX12_tells cX12_tells 3 none, .methodLink RX12 480 yX12_draw, .instanceMethod yX12_draw, .selects RX12 yX12_draw yX12_draw, .code yX12_draw cX12_draw 2 (some .int), .fieldLink RX12 48 "LowEnergyModel" "x" "[I", .constant RX12 395 (1103515245), .fieldLink RX12 299 "LowEnergyModel" "passkey" "[I", .methodLink RX12 534 yX12_saysFirst, .instanceMethod yX12_saysFirst, .selects RX12 yX12_saysFirst yX12_saysFirst, .code yX12_saysFirst cX12_saysFirst 3 none, .fieldLink RX12 281 "LowEnergyModel" "wholeMany" "[I", .fieldLink RX12 284 "LowEnergyModel" "wholeAll" "[I", .fieldLink RX12 263 "LowEnergyModel" "came" "[B", .methodLink RX12 473 yX12_controlled, .instanceMethod yX12_controlled, .selects RX12 yX12_controlled yX12_controlled, .code yX12_controlled cX12_controlled 8 none, .fieldLink RX12 73 "LowEnergyModel" "newMap" "[J", .methodLink RX12 494 yX12_number_, .static yX12_number_, .code yX12_number_ cX12_number_ 6 (some .long), .fieldLink RX12 139 "LowEnergyModel" "instant" "[I", .methodLink RX12 497 yX12_isMap, .static yX12_isMap, .code yX12_isMap cX12_isMap 2 (some .boolean), .constantLong RX12 396 (137438953472), .methodLink RX12 398 yJ13_bitCount_95d88, .static yJ13_bitCount_95d88, .initialized RJ13, .code yJ13_bitCount_95d88 cJ13_bitCount_95d88 2 (some .int), .constantLong RJ13 314 (6148914691236517205), .constantLong RJ13 316 (3689348814741910323), .constantLong RJ13 318 (1085102592571150095), .methodLink RX12 501 yX12_ciphers, .instanceMethod yX12_ciphers, .selects RX12 yX12_ciphers yX12_ciphers, .code yX12_ciphers cX12_ciphers 3 none, .methodLink RX12 486 yX12_adds_, .instanceMethod yX12_adds_, .selects RX12 yX12_adds_ yX12_adds_, .code yX12_adds_ cX12_adds_ 5 none, .fieldLink RX12 260 "LowEnergyModel" "pdu" "[B", .methodLink RX12 436 yX12_adds, .instanceMethod yX12_adds, .selects RX12 yX12_adds yX12_adds, .code yX12_adds cX12_adds 5 none, .methodLink RX12 515 yX12_makesSession, .instanceMethod yX12_makesSession, .selects RX12 yX12_makesSession yX12_makesSession, .code yX12_makesSession cX12_makesSession 3 none, .fieldLink RX12 218 "LowEnergyModel" "ownIv" "[B", .fieldLink RX12 215 "LowEnergyModel" "ownSkd" "[B", .methodLink RX12 512 yX12_draws, .instanceMethod yX12_draws, .selects RX12 yX12_draws yX12_draws, .code yX12_draws cX12_draws 3 none, .methodLink RX12 519 yX12_addsDraws, .instanceMethod yX12_addsDraws, .selects RX12 yX12_addsDraws yX12_addsDraws, .code yX12_addsDraws cX12_addsDraws 3 none, .fieldLink RX12 76 "LowEnergyModel" "features" "[J", .methodLink RX12 507 yX12_version, .instanceMethod yX12_version, .selects RX12 yX12_version yX12_version, .code yX12_version cX12_version 2 none, .constantLong RX12 510 (258), .methodLink RX12 483 yX12_bytesOf, .static yX12_bytesOf, .code yX12_bytesOf cX12_bytesOf 1 (some .int), .methodLink RX12 666 yX12_hops, .instanceMethod yX12_hops, .selects RX12 yX12_hops yX12_hops, .code yX12_hops cX12_hops 4 none, .fieldLink RX12 70 "LowEnergyModel" "map" "[J", .fieldLink RX12 115 "LowEnergyModel" "u" "[I", .fieldLink RX12 106 "LowEnergyModel" "hop" "[I", .fieldLink RX12 54 "LowEnergyModel" "next" "[I", .methodLink RX12 659 yX12_advertises, .instanceMethod yX12_advertises, .selects RX12 yX12_advertises yX12_advertises, .code yX12_advertises cX12_advertises 8 none, .fieldLink RX12 633 "LowEnergyModel" "FIRST_ACCESS" "[B", .constant RX12 636 (5592405), .fieldLink RX12 67 "LowEnergyModel" "wanted" "[J", .methodLink RX12 647 yX12_initiates, .instanceMethod yX12_initiates, .selects RX12 yX12_initiates yX12_initiates, .code yX12_initiates cX12_initiates 10 none, .methodLink RX12 650 yX12_begins, .instanceMethod yX12_begins, .selects RX12 yX12_begins yX12_begins, .code yX12_begins cX12_begins 3 none, .fieldLink RX12 88 "LowEnergyModel" "reports" "[I", .fieldLink RX12 79 "LowEnergyModel" "reported" "[J", .fieldLink RX12 91 "LowEnergyModel" "reportMany" "[I", .fieldLink RX12 85 "LowEnergyModel" "reportData" "[B", .methodLink RX12 637 yX12_sendsFirst, .instanceMethod yX12_sendsFirst, .selects RX12 yX12_sendsFirst yX12_sendsFirst, .code yX12_sendsFirst cX12_sendsFirst 3 (some .int), .fieldLink RX12 82 "LowEnergyModel" "data" "[B", .fieldLink RX12 57 "LowEnergyModel" "advertised" "[I"] : List Cond) ++ (wsX120 ++ ([])))
theorem hi_M_tick_X12 : ∀ x ∈ u_ws RX12 TX12 123, x ∈ wp_M_tick := fun _ h => List.mem_cons_of_mem _ (List.mem_append_right _ (List.mem_append_left _ h))
set_option maxRecDepth 100000 in
theorem gd_M_tick_M_one_675 : GoodIn wp_M_tick (wsV RX12 675 RX12 yX12_one wp_M_one) := goodIn_app (goodIn_r _ [2, 3, 4, 5] rfl rfl) (goodIn_ca (goodIn_r _ [6, 7, 8, 9, 10, 5, 11, 12, 13, 14, 15, 16, 17, 18, 19, 20, 21, 22, 23, 24, 25, 26, 27, 28, 29, 30, 31, 32, 33, 34, 35, 36, 37, 38, 39, 40, 41, 42, 43, 44, 45, 46, 47, 48, 49, 50, 51, 52, 53, 54, 55, 56, 57, 58, 59, 60, 61, 62, 63, 64, 65, 66, 67, 68, 69, 70, 71, 72, 73, 74, 75, 76, 77, 78, 79, 80, 81, 82, 83, 84, 85, 86, 87, 88, 89, 90, 91, 92, 93, 94, 95, 96, 97, 98, 99, 100, 101, 102, 103, 104, 105, 106, 107, 108, 109, 110, 111, 112, 113, 114, 115, 116, 117, 118, 119, 120, 121, 122, 123, 124, 125, 126, 127, 128, 129, 130, 131, 132, 133, 134, 135, 136, 137, 138, 139, 140, 141, 142, 143, 144, 145, 146, 147, 148, 149, 150, 151, 152, 153, 154, 155, 156, 157, 158, 159, 160, 161, 162, 163, 164, 165, 166, 167, 168, 169, 170, 171, 172, 173, 174, 175, 176, 177, 178, 179, 180, 181, 182, 183, 184, 185, 186, 187, 188, 189, 190, 191, 192, 193, 194, 195, 196, 197, 198, 199, 200, 201, 202, 203, 204, 205, 206, 207, 208, 209, 210, 211, 212, 213, 214, 215, 216, 217, 218, 219, 220, 221, 222, 223, 224, 225, 226, 227, 228, 229, 230, 231, 232, 233, 234, 235, 236, 237, 238, 239, 240, 241, 242, 243, 244, 245, 246, 247, 248, 249, 250, 251, 252, 253, 254, 255, 256, 257, 258, 259, 260, 261, 262, 263, 264, 265, 266, 267, 268, 269, 270, 271, 272, 273, 274, 275, 276, 277, 278, 279, 280, 281, 282, 283, 284, 285, 286, 287, 288, 289, 290, 291, 292, 293, 294, 295, 296, 297, 298, 299, 300, 301, 302, 303, 304, 305, 306, 307, 308, 309, 310, 311, 312, 313, 314, 315, 316, 317, 318, 319, 320, 321, 322, 323, 324, 325, 326, 327, 328, 329, 330, 331, 332, 333, 334, 335, 336, 337, 338, 339, 340, 341, 342, 343, 344, 345, 346, 347, 348, 349, 350, 351, 352, 353, 354, 355, 356, 357, 358, 359, 360, 361, 362, 363, 364, 365, 366, 367, 368, 369, 370, 371, 372, 373, 374, 375, 376, 377, 378, 379, 380, 381, 382, 383, 384, 385, 386, 387, 388, 389, 390, 391, 392, 393, 394, 395, 396, 397, 398, 399, 400, 401, 402, 403, 404, 405, 406, 407, 408, 409, 410, 411, 412, 413, 414, 415, 416, 417, 418, 419, 420, 421, 422, 423, 424, 425, 426, 427, 428, 429, 430, 431, 432, 433, 434, 435, 436, 437, 438, 439, 440, 441, 442, 443] rfl rfl) (goodIn_app (goodIn_cls hi_M_tick_X12 gw_X12) (goodIn_nil)))
set_option maxHeartbeats 4000000 in
set_option maxRecDepth 100000 in
theorem b_M_tick {p : Program} {l : Launch} {e : Env} {R : Room} {s : State} {m : MethodId} {args : Array Value} {below : List Frame} {meth : Method} {c : Code} {D : va_G} {K : Nat → ClassId} {A : Nat → Prop} {Q : State → Prop} {τ : Nat → Option Ty} {dom : List Nat} {zb zL : Nat} {zx : Nat → Int32} {zs : Nat → Nat} (hR : 12 ≤ R.frames ∧ 291 ≤ R.locals) (B : Bx p s m args c cX12_tick 4 RX12 wp_M_tick D (tysA K) A) (Z : Sk τ dom) (hz : ZL zb zL zx zs A s s.heap) (h : Nat) (q : Nat → Nat) (Y : MS τ h q) (x1 : Int) (r_x1 : -2147483648 ≤ x1 ∧ x1 ≤ 2147483647) (σ0 : Nat → va_E) (G0 : GM K h q σ0) (hend : ∀ (σ' : Nat → va_E) (z : Int) (lv : List (Nat × Value)) (pc : Nat), GM K h q σ' → Fr τ [(50, 0), (108, 0), (110, 0), (152, 0), (124, 0), (148, 0), (149, 0), (150, 0), (123, 0), (147, 0), (153, 0), (131, 0), (136, 0), (137, 0), (140, 0), (141, 0), (154, 0), (155, 0), (156, 0), (157, 0), (168, 0), (169, 0), (170, 0), (171, 0), (172, 0), (158, 0), (159, 0), (173, 0), (174, 0), (176, 0), (185, 0), (186, 0), (189, 0), (192, 0), (204, 0), (206, 0), (214, 0), (216, 0), (107, 0), (132, 0), (129, 0), (130, 0), (133, 0), (134, 0), (135, 0), (145, 0), (144, 0), (146, 0), (113, 0), (139, 0), (128, 0), (109, 0), (126, 0), (115, 0), (127, 0), (121, 0), (118, 0), (122, 0), (120, 0), (142, 0), (160, 0), (182, 0), (184, 0), (161, 0), (167, 0), (177, 0), (104, 0), (105, 0), (106, 0), (178, 0), (179, 0), (181, 0), (116, 0), (138, 0), (180, 0), (164, 0), (163, 0), (165, 0), (166, 0), (187, 0), (188, 0), (183, 0), (191, 0), (190, 0), (219, 0), (220, 0), (222, 0), (221, 0), (203, 0), (207, 0), (210, 0), (211, 0), (212, 0), (208, 0), (209, 0), (213, 0), (194, 0), (195, 0), (197, 0), (198, 0), (199, 0), (196, 0), (162, 0), (175, 0)] σ0 σ' → (-2147483648 ≤ z ∧ z ≤ 2147483647) → decode cX12_tick pc = .ok (.ireturn, 1) → V p l e R s m args below meth c 4 D A Q (0, 0) (fd dom σ') lv pc [.int (iI z)]) : V p l e R s m args below meth c 4 D A Q (0, 0) (fd dom σ0) [(0, .ref h), (1, .int (iI x1))] 0 [] := by
  have F0 : Fr τ [(50, 0), (108, 0), (110, 0), (152, 0), (124, 0), (148, 0), (149, 0), (150, 0), (123, 0), (147, 0), (153, 0), (131, 0), (136, 0), (137, 0), (140, 0), (141, 0), (154, 0), (155, 0), (156, 0), (157, 0), (168, 0), (169, 0), (170, 0), (171, 0), (172, 0), (158, 0), (159, 0), (173, 0), (174, 0), (176, 0), (185, 0), (186, 0), (189, 0), (192, 0), (204, 0), (206, 0), (214, 0), (216, 0), (107, 0), (132, 0), (129, 0), (130, 0), (133, 0), (134, 0), (135, 0), (145, 0), (144, 0), (146, 0), (113, 0), (139, 0), (128, 0), (109, 0), (126, 0), (115, 0), (127, 0), (121, 0), (118, 0), (122, 0), (120, 0), (142, 0), (160, 0), (182, 0), (184, 0), (161, 0), (167, 0), (177, 0), (104, 0), (105, 0), (106, 0), (178, 0), (179, 0), (181, 0), (116, 0), (138, 0), (180, 0), (164, 0), (163, 0), (165, 0), (166, 0), (187, 0), (188, 0), (183, 0), (191, 0), (190, 0), (219, 0), (220, 0), (222, 0), (221, 0), (203, 0), (207, 0), (210, 0), (211, 0), (212, 0), (208, 0), (209, 0), (213, 0), (194, 0), (195, 0), (197, 0), (198, 0), (199, 0), (196, 0), (162, 0), (175, 0)] σ0 σ0 := Fr.rf
  obtain ⟨z1, z2, z3, z4, z5, h6, r7, r8, r9, r10, r11⟩ := G0.t.o
  have J25 : ∀ (k25 : Nat) (σ_25 : Nat → va_E) (z25_2 : Int) (z25_3 : Int), (2147483648 - z25_3).toNat ≤ k25 → GM K h q σ_25 → Fr τ [(50, 0), (108, 0), (110, 0), (152, 0), (124, 0), (148, 0), (149, 0), (150, 0), (123, 0), (147, 0), (153, 0), (131, 0), (136, 0), (137, 0), (140, 0), (141, 0), (154, 0), (155, 0), (156, 0), (157, 0), (168, 0), (169, 0), (170, 0), (171, 0), (172, 0), (158, 0), (159, 0), (173, 0), (174, 0), (176, 0), (185, 0), (186, 0), (189, 0), (192, 0), (204, 0), (206, 0), (214, 0), (216, 0), (107, 0), (132, 0), (129, 0), (130, 0), (133, 0), (134, 0), (135, 0), (145, 0), (144, 0), (146, 0), (113, 0), (139, 0), (128, 0), (109, 0), (126, 0), (115, 0), (127, 0), (121, 0), (118, 0), (122, 0), (120, 0), (142, 0), (160, 0), (182, 0), (184, 0), (161, 0), (167, 0), (177, 0), (104, 0), (105, 0), (106, 0), (178, 0), (179, 0), (181, 0), (116, 0), (138, 0), (180, 0), (164, 0), (163, 0), (165, 0), (166, 0), (187, 0), (188, 0), (183, 0), (191, 0), (190, 0), (219, 0), (220, 0), (222, 0), (221, 0), (203, 0), (207, 0), (210, 0), (211, 0), (212, 0), (208, 0), (209, 0), (213, 0), (194, 0), (195, 0), (197, 0), (198, 0), (199, 0), (196, 0), (162, 0), (175, 0)] σ0 σ_25 → (-2147483648 ≤ z25_2 ∧ z25_2 ≤ 2147483647) → (0 ≤ z25_3 ∧ z25_3 ≤ 2147483647) → V p l e R s m args below meth c 4 D A Q (0, 0) (fd dom σ_25) [(0, .ref h), (1, .int (iI x1)), (2, .int (iI z25_2)), (3, .int (iI z25_3))] 25 [] := by
    intro k25
    induction k25 with
    | zero => intro σ_25 z25_2 z25_3 m25 G_25 F_25 r25_2 r25_3; omega
    | succ k25 IH25 =>
      intro σ_25 z25_2 z25_3 m25 G_25 F_25 r25_2 r25_3
      refine v_iload_n B dX12_tick_25 rfl rfl ?_
      refine v_iload_n B dX12_tick_26 rfl rfl ?_
      refine u_icmp_ge B (tgt := 54) (by omega) (by omega) dX12_tick_27 (by decide +kernel) (fun c12 => ?_) (fun c12 => ?_)
      · refine v_iload_n B dX12_tick_54 rfl rfl ?_
        exact hend σ_25 z25_2 _ _ G_25 F_25 ⟨by omega, by omega⟩ dX12_tick_55
      · refine v_aload_n B dX12_tick_30 rfl rfl ?_
        obtain ⟨z13, z14, z15, z16, z17, h18, r19, r20, r21, r22, r23⟩ := G_25.t.o
        refine u_get B Z (C := RX12) (T := TX12) (N := 123) (ci := 12) hi_M_tick_X12 Y.o h18 rfl 0 (by decide +kernel) (List.mem_of_getElem? (i := 1) rfl) rfl dX12_tick_31 ?_
        refine u_if_ne B (tgt := 54) (by omega) dX12_tick_34 (by decide +kernel) (fun c24 => ?_) (fun c24 => ?_)
        · refine v_iload_n B dX12_tick_54 rfl rfl ?_
          exact hend σ_25 z25_2 _ _ G_25 F_25 ⟨by omega, by omega⟩ dX12_tick_55
        · refine v_aload_n B dX12_tick_37 rfl rfl ?_
          refine u_callVv B Z hz (n := 0) (As := []) (rest := []) (c_M_one l D K Z _ _ _ _ h q Y   σ_25 G_25) gd_M_tick_M_one_675 rfl rfl rfl (by decide +kernel) ⟨Nat.le_trans (by decide +kernel) hR.1, Nat.le_trans (by decide +kernel) hR.2⟩ Y.o (clsM G_25.t) rfl rfl rfl rfl (Nat.le_of_ble_eq_true rfl) dX12_tick_38 ⟨Nat.zero_le _, Nat.zero_le _⟩ (fun σ25 p26 => ?_)
          obtain ⟨G28, F29⟩ := p26
          have F30 := F_25.call F29 (by first | rfl | simp)
          refine v_iload_n B dX12_tick_41 rfl rfl ?_
          refine v_aload_n B dX12_tick_42 rfl rfl ?_
          obtain ⟨z31, z32, z33, z34, z35, h36, r37, r38, r39, r40, r41⟩ := G28.t.o
          refine u_get B Z (C := RX12) (T := TX12) (N := 123) (ci := 12) hi_M_tick_X12 Y.o h36 rfl 51 (by decide +kernel) (List.mem_of_getElem? (i := 99) rfl) rfl dX12_tick_43 ?_
          obtain ⟨z42, e43, r44⟩ := iI_any (iI z25_2 + iI z34)
          refine v_iadd B (v := iI z42) dX12_tick_46 e43 ?_
          refine v_istore_n B (lv' := [(2, .int (iI z42)), (0, .ref h), (1, .int (iI x1)), (3, .int (iI z25_3))]) dX12_tick_47 rfl (by decide +kernel) rfl ?_
          refine v_iinc B (k := 3) (v := iI (z25_3 + 1)) (lv' := [(3, .int (iI (z25_3 + 1))), (2, .int (iI z42)), (0, .ref h), (1, .int (iI x1))]) dX12_tick_48 rfl ((iI_add _ _).trans (congrArg iI (by omega))) (by decide +kernel) rfl ?_
          refine v_goto B (tgt := 25) dX12_tick_51 (by decide +kernel) ?_
          refine v_lv [2, 3, 1, 0] rfl ?_
          exact IH25 σ25 z42 (z25_3 + 1) (by omega) G28 F30 ⟨by omega, by omega⟩ ⟨by omega, by omega⟩
  have J18 : ∀ (z18_s0 : Int), (0 ≤ z18_s0 ∧ z18_s0 ≤ 1) → V p l e R s m args below meth c 4 D A Q (0, 0) (fd dom σ0) [(0, .ref h), (1, .int (iI x1))] 18 [.int (iI z18_s0), .ref h] := by
    intro z18_s0 r18_s0
    refine u_put B Z (C := RX12) (T := TX12) (N := 123) (ci := 12) hi_M_tick_X12 Y.o h6 rfl 0 (by decide +kernel) tyX12 tyX12_ok nmX12 (List.mem_of_getElem? (i := 1) rfl) rfl (ty := .int) (tyX12_ok 0 (by decide +kernel)) rfl rfl (Nat.le_of_ble_eq_true rfl) (fs' := fsM q (iI z18_s0) (iI z2) (iI z3) (iI z4) (iI z5)) rfl dX12_tick_18 (fun σ45 h46 n47 => ?_)
    have F48 := F0.put Y.o (by simp) n47
    have G49 := G0.putO Y ⟨z18_s0, z2, z3, z4, z5, h46, ⟨by omega, by omega⟩, ⟨by omega, by omega⟩, ⟨by omega, by omega⟩, ⟨by omega, by omega⟩, ⟨by omega, by omega⟩⟩ n47
    refine v_iconst B (v := iI 0) dX12_tick_21 rfl ?_
    refine v_istore_n B (lv' := [(2, .int (iI 0)), (0, .ref h), (1, .int (iI x1))]) dX12_tick_22 rfl (by decide +kernel) rfl ?_
    refine v_iconst B (v := iI 0) dX12_tick_23 rfl ?_
    refine v_istore_n B (lv' := [(3, .int (iI 0)), (2, .int (iI 0)), (0, .ref h), (1, .int (iI x1))]) dX12_tick_24 rfl (by decide +kernel) rfl ?_
    refine v_lv [2, 3, 1, 0] rfl ?_
    exact J25 _ σ45 0 0 (Nat.le_refl _) G49 F48 ⟨by omega, by omega⟩ ⟨by omega, by omega⟩
  have J13 : V p l e R s m args below meth c 4 D A Q (0, 0) (fd dom σ0) [(0, .ref h), (1, .int (iI x1))] 13 [.ref h] := by
    refine v_iconst B (v := iI 1) dX12_tick_13 rfl ?_
    refine v_goto B (tgt := 18) dX12_tick_14 (by decide +kernel) ?_
    exact J18 1 ⟨by omega, by omega⟩
  refine v_aload_n B dX12_tick_0 rfl rfl ?_
  refine v_iload_n B dX12_tick_1 rfl rfl ?_
  refine v_iconst B (v := iI 1) dX12_tick_2 rfl ?_
  refine u_icmp_lt B (tgt := 13) (by omega) (by omega) dX12_tick_3 (by decide +kernel) (fun c50 => ?_) (fun c50 => ?_)
  · exact J13
  · refine v_iload_n B dX12_tick_6 rfl rfl ?_
    refine v_sipush B (v := iI 1000) dX12_tick_7 (by decide +kernel) ?_
    refine u_icmp_le B (tgt := 17) (by omega) (by omega) dX12_tick_10 (by decide +kernel) (fun c51 => ?_) (fun c51 => ?_)
    · refine v_iconst B (v := iI 0) dX12_tick_17 rfl ?_
      exact J18 0 ⟨by omega, by omega⟩
    · exact J13
set_option maxRecDepth 100000 in
theorem c_M_tick (l : Launch) (D : va_G) (K : Nat → ClassId) {τ : Nat → Option Ty} {dom : List Nat} (Z : Sk τ dom) (zb zL : Nat) (zx : Nat → Int32) (zs : Nat → Nat) (h : Nat) (q : Nat → Nat) (Y : MS τ h q) (x1 : Int) (r_x1 : -2147483648 ≤ x1 ∧ x1 ≤ 2147483647) (σ0 : Nat → va_E) (G0 : GM K h q σ0) : MZ l yX12_tick wp_M_tick ({ frames := 12, cells := 0, slots := 0, locals := 291 }) D (tysA K) [.ref h, .int (iI x1)] (fd dom σ0) zb zL zx zs (Qi D (fun r σ' => GM K h q σ' ∧ Fr τ [(50, 0), (108, 0), (110, 0), (152, 0), (124, 0), (148, 0), (149, 0), (150, 0), (123, 0), (147, 0), (153, 0), (131, 0), (136, 0), (137, 0), (140, 0), (141, 0), (154, 0), (155, 0), (156, 0), (157, 0), (168, 0), (169, 0), (170, 0), (171, 0), (172, 0), (158, 0), (159, 0), (173, 0), (174, 0), (176, 0), (185, 0), (186, 0), (189, 0), (192, 0), (204, 0), (206, 0), (214, 0), (216, 0), (107, 0), (132, 0), (129, 0), (130, 0), (133, 0), (134, 0), (135, 0), (145, 0), (144, 0), (146, 0), (113, 0), (139, 0), (128, 0), (109, 0), (126, 0), (115, 0), (127, 0), (121, 0), (118, 0), (122, 0), (120, 0), (142, 0), (160, 0), (182, 0), (184, 0), (161, 0), (167, 0), (177, 0), (104, 0), (105, 0), (106, 0), (178, 0), (179, 0), (181, 0), (116, 0), (138, 0), (180, 0), (164, 0), (163, 0), (165, 0), (166, 0), (187, 0), (188, 0), (183, 0), (191, 0), (190, 0), (219, 0), (220, 0), (222, 0), (221, 0), (203, 0), (207, 0), (210, 0), (211, 0), (212, 0), (208, 0), (209, 0), (213, 0), (194, 0), (195, 0), (197, 0), (198, 0), (199, 0), (196, 0), (162, 0), (175, 0)] σ0 σ' ∧ ∃ z : Int, r = iI z ∧ (-2147483648 ≤ z ∧ z ≤ 2147483647)) (fun σ' => fd dom σ')) 0 0 := by
  refine mz_of (cc := cX12_tick) (maxL := 4) (ret := (some .int)) (by decide +kernel) rfl (Nat.le_of_ble_eq_true rfl) ?_
  intro p e s m below meth c A B hr hlk _ hz
  exact b_M_tick ⟨Nat.le_refl _, Nat.le_refl _⟩ B Z hz h q Y x1 r_x1 σ0 G0 (fun σ' z lv pc G F hZ hd => v_iret B hr hlk σ' ⟨G, F, z, rfl, hZ⟩ rfl (Nat.le_refl _) (Nat.le_refl _) hd)
