/-! the tables' words that the walks use -/
set_option maxRecDepth 20000 in
theorem px_FD : pw_C cD RD TD 7 tyD := ⟨rfl, by decide +kernel, by decide +kernel, by decide +kernel⟩
set_option maxRecDepth 20000 in
theorem px_FP : pw_C cP RP TP 7 tyP := ⟨rfl, by decide +kernel, by decide +kernel, by decide +kernel⟩
set_option maxRecDepth 20000 in
theorem pm_FM : pw_C cM RM TM 17 tyM := ⟨rfl, by decide +kernel, by decide +kernel, by decide +kernel⟩
theorem iniL : Cond.initialized RL ∈ pw_T := pw_in (by decide +kernel) rfl
theorem iniP : Cond.initialized RP ∈ pw_T := pw_in (by decide +kernel) rfl
theorem iniD : Cond.initialized RD ∈ pw_T := pw_in (by decide +kernel) rfl
theorem iniM : Cond.initialized RM ∈ pw_T := pw_in (by decide +kernel) rfl
theorem ini_IA : Cond.initialized exIA ∈ pw_T := pw_in (by decide +kernel) rfl
theorem ini_IS : Cond.initialized exIS ∈ pw_T := pw_in (by decide +kernel) rfl
theorem iniF : Cond.initialized "java/util/Arrays" ∈ pw_T := pw_in (by decide +kernel) rfl
theorem ini_IB : Cond.initialized exIB ∈ pw_T := pw_in (by decide +kernel) rfl
theorem eL_8 : Cond.classLink RL 8 RP ∈ pw_T := pw_in (by decide +kernel) rfl
theorem nwP : Cond.instantiable RP 7 ∈ pw_T := pw_in (by decide +kernel) rfl
theorem eL_33 : Cond.methodLink RL 33 yX1_init ∈ pw_T := pw_in (by decide +kernel) rfl
theorem iP_init : Cond.instanceMethod yX1_init ∈ pw_T := pw_in (by decide +kernel) rfl
theorem kP_init : Cond.code yX1_init cX1_init 2 none ∈ pw_T := pw_in (List.mem_of_getElem? (i := 30) rfl) rfl
theorem eP_1 : Cond.methodLink RP 1 objectInit ∈ pw_T := pw_in (by decide +kernel) rfl
theorem iO : Cond.instanceMethod objectInit ∈ pw_T := pw_in (by decide +kernel) rfl
theorem kO : Cond.code objectInit ⟨#[0xb1]⟩ 1 none ∈ pw_T := pw_in (List.mem_of_getElem? (i := 33) rfl) rfl
theorem eP_13 : Cond.classLink RP 13 RD ∈ pw_T := pw_in (by decide +kernel) rfl
theorem aoD : Cond.arrayOver (.object RD) ∈ lw_tbl := by decide +kernel
theorem nwD : Cond.instantiable RD 7 ∈ pw_T := pw_in (by decide +kernel) rfl
theorem eP_19n : Cond.methodLinkNest RP 19 yX0_init "PieceBench" ∈ lw_tbl := by decide +kernel
theorem iD_init : Cond.instanceMethod yX0_init ∈ pw_T := pw_in (by decide +kernel) rfl
theorem kD_init : Cond.code yX0_init cX0_init 1 none ∈ pw_T := pw_in (List.mem_of_getElem? (i := 39) rfl) rfl
theorem eD_3 : Cond.methodLink RD 3 objectInit ∈ pw_T := pw_in (by decide +kernel) rfl
theorem eD_9 : Cond.fieldLink RD 9 "PieceBench$Datagram" "bytes" "[I" ∈ pw_T := pw_in (by decide +kernel) rfl
theorem eP_101 : Cond.fieldLinkNest RP 101 "PieceBench$Datagram" "bytes" "[I" "PieceBench" ∈ lw_tbl := by decide +kernel
theorem eD_15 : Cond.fieldLink RD 15 "PieceBench$Datagram" "source" "I" ∈ pw_T := pw_in (by decide +kernel) rfl
theorem eP_87 : Cond.fieldLinkNest RP 87 "PieceBench$Datagram" "source" "I" "PieceBench" ∈ lw_tbl := by decide +kernel
theorem eD_19 : Cond.fieldLink RD 19 "PieceBench$Datagram" "goal" "I" ∈ pw_T := pw_in (by decide +kernel) rfl
theorem eP_90 : Cond.fieldLinkNest RP 90 "PieceBench$Datagram" "goal" "I" "PieceBench" ∈ lw_tbl := by decide +kernel
theorem eD_22 : Cond.fieldLink RD 22 "PieceBench$Datagram" "number" "I" ∈ pw_T := pw_in (by decide +kernel) rfl
theorem eP_93 : Cond.fieldLinkNest RP 93 "PieceBench$Datagram" "number" "I" "PieceBench" ∈ lw_tbl := by decide +kernel
theorem eD_25 : Cond.fieldLink RD 25 "PieceBench$Datagram" "size" "I" ∈ pw_T := pw_in (by decide +kernel) rfl
theorem eP_52 : Cond.fieldLinkNest RP 52 "PieceBench$Datagram" "size" "I" "PieceBench" ∈ lw_tbl := by decide +kernel
theorem eD_28 : Cond.fieldLink RD 28 "PieceBench$Datagram" "lacking" "I" ∈ pw_T := pw_in (by decide +kernel) rfl
theorem eP_59 : Cond.fieldLinkNest RP 59 "PieceBench$Datagram" "lacking" "I" "PieceBench" ∈ lw_tbl := by decide +kernel
theorem eD_31 : Cond.fieldLink RD 31 "PieceBench$Datagram" "since" "I" ∈ pw_T := pw_in (by decide +kernel) rfl
theorem eP_122 : Cond.fieldLinkNest RP 122 "PieceBench$Datagram" "since" "I" "PieceBench" ∈ lw_tbl := by decide +kernel
theorem arI : Cond.arrayClass .int ∈ pw_T := pw_in (by decide +kernel) rfl
theorem eP_9 : Cond.fieldLink RP 9 "PieceBench" "fed" "[I" ∈ pw_T := pw_in (by decide +kernel) rfl
theorem eP_31 : Cond.fieldLink RP 31 "PieceBench" "fedCount" "I" ∈ pw_T := pw_in (by decide +kernel) rfl
theorem eP_15 : Cond.fieldLink RP 15 "PieceBench" "bench" "[LPieceBench$Datagram;" ∈ pw_T := pw_in (by decide +kernel) rfl
theorem eP_108 : Cond.fieldLink RP 108 "PieceBench" "benchCount" "I" ∈ pw_T := pw_in (by decide +kernel) rfl
theorem eP_20 : Cond.fieldLink RP 20 "PieceBench" "lastWhole" "LPieceBench$Datagram;" ∈ pw_T := pw_in (by decide +kernel) rfl
theorem eP_81 : Cond.fieldLink RP 81 "PieceBench" "anyWhole" "Z" ∈ pw_T := pw_in (by decide +kernel) rfl
theorem eP_70 : Cond.fieldLink RP 70 "PieceBench" "time" "I" ∈ pw_T := pw_in (by decide +kernel) rfl
theorem eL_63 : Cond.methodLink RL 63 yX1_missing ∈ pw_T := pw_in (by decide +kernel) rfl
theorem iP_missing : Cond.instanceMethod yX1_missing ∈ pw_T := pw_in (by decide +kernel) rfl
theorem sP_missing : Cond.selects RP yX1_missing yX1_missing ∈ pw_T := pw_in (by decide +kernel) rfl
theorem kP_missing : Cond.code yX1_missing cX1_missing 5 (some .int) ∈ pw_T := pw_in (List.mem_of_getElem? (i := 96) rfl) rfl
theorem eP_44 : Cond.methodLink RP 44 yX1_placeOf ∈ pw_T := pw_in (by decide +kernel) rfl
theorem iP_placeOf : Cond.instanceMethod yX1_placeOf ∈ pw_T := pw_in (by decide +kernel) rfl
theorem kP_placeOf : Cond.code yX1_placeOf cX1_placeOf 5 (some .int) ∈ pw_T := pw_in (List.mem_of_getElem? (i := 100) rfl) rfl
theorem eP_111 : Cond.methodLinkNest RP 111 yX0_isTold "PieceBench" ∈ lw_tbl := by decide +kernel
theorem iD_isTold : Cond.instanceMethod yX0_isTold ∈ pw_T := pw_in (by decide +kernel) rfl
theorem kD_isTold : Cond.code yX0_isTold cX0_isTold 4 (some .boolean) ∈ pw_T := pw_in (List.mem_of_getElem? (i := 104) rfl) rfl
theorem eL_68 : Cond.methodLink RL 68 yX1_has ∈ pw_T := pw_in (by decide +kernel) rfl
theorem iP_has : Cond.instanceMethod yX1_has ∈ pw_T := pw_in (by decide +kernel) rfl
theorem sP_has : Cond.selects RP yX1_has yX1_has ∈ pw_T := pw_in (by decide +kernel) rfl
theorem kP_has : Cond.code yX1_has cX1_has 6 (some .boolean) ∈ pw_T := pw_in (List.mem_of_getElem? (i := 108) rfl) rfl
theorem eP_104 : Cond.methodLinkNest RP 104 yX0_holds "PieceBench" ∈ lw_tbl := by decide +kernel
theorem iD_holds : Cond.instanceMethod yX0_holds ∈ pw_T := pw_in (by decide +kernel) rfl
theorem kD_holds : Cond.code yX0_holds cX0_holds 2 (some .boolean) ∈ pw_T := pw_in (List.mem_of_getElem? (i := 112) rfl) rfl
theorem eL_73 : Cond.methodLink RL 73 yX1_waiting ∈ pw_T := pw_in (by decide +kernel) rfl
theorem iP_waiting : Cond.instanceMethod yX1_waiting ∈ pw_T := pw_in (by decide +kernel) rfl
theorem sP_waiting : Cond.selects RP yX1_waiting yX1_waiting ∈ pw_T := pw_in (by decide +kernel) rfl
theorem kP_waiting : Cond.code yX1_waiting cX1_waiting 1 (some .int) ∈ pw_T := pw_in (List.mem_of_getElem? (i := 116) rfl) rfl
theorem eL_39 : Cond.methodLink RL 39 yL_feed ∈ pw_T := pw_in (by decide +kernel) rfl
theorem tL_feed : Cond.static yL_feed ∈ pw_T := pw_in (by decide +kernel) rfl
theorem kL_feed : Cond.codeWith yL_feed cL_feed 6 (some .int) [(0, 11, 14, 13), (0, 11, 18, 15)] ∈ pw_T := pw_in (List.mem_of_getElem? (i := 119) rfl) rfl
theorem eL_13 : Cond.classLink RL 13 "java/lang/IllegalArgumentException" ∈ pw_T := pw_in (by decide +kernel) rfl
theorem cl_exIA : Cond.classLink RL 13 exIA ∈ pw_T := pw_in (by decide +kernel) rfl
theorem eL_15 : Cond.classLink RL 15 "java/lang/IllegalStateException" ∈ pw_T := pw_in (by decide +kernel) rfl
theorem cl_exIS : Cond.classLink RL 15 exIS ∈ pw_T := pw_in (by decide +kernel) rfl
theorem eL_7 : Cond.methodLink RL 7 yX1_feed ∈ pw_T := pw_in (by decide +kernel) rfl
theorem iP_feed : Cond.instanceMethod yX1_feed ∈ pw_T := pw_in (by decide +kernel) rfl
theorem sP_feed : Cond.selects RP yX1_feed yX1_feed ∈ pw_T := pw_in (by decide +kernel) rfl
theorem kP_feed : Cond.code yX1_feed cX1_feed 6 (some .int) ∈ pw_T := pw_in (List.mem_of_getElem? (i := 125) rfl) rfl
theorem eP_24 : Cond.classLink RP 24 "java/lang/IllegalArgumentException" ∈ pw_T := pw_in (by decide +kernel) rfl
theorem ct_exIA : Cond.castable exIA exIA ∈ lw_tbl := by decide +kernel
theorem tx26 : Cond.stringRef RP 26 "n is not 1 .. 8" ∈ lw_tbl := by decide +kernel
theorem eP_28 : Cond.methodLink RP 28 ⟨"java/lang/IllegalArgumentException", "<init>", "(Ljava/lang/String;)V"⟩ ∈ pw_T := pw_in (by decide +kernel) rfl
theorem ar_byte : Cond.arrayClass .byte ∈ pw_T := pw_in (by decide +kernel) rfl
theorem eP_35 : Cond.classLink RP 35 "java/lang/IllegalStateException" ∈ pw_T := pw_in (by decide +kernel) rfl
theorem ct_exIS : Cond.castable exIS exIS ∈ lw_tbl := by decide +kernel
theorem tx37 : Cond.stringRef RP 37 "more than 1480 bytes would be fed" ∈ lw_tbl := by decide +kernel
theorem eP_39 : Cond.methodLink RP 39 ⟨"java/lang/IllegalStateException", "<init>", "(Ljava/lang/String;)V"⟩ ∈ pw_T := pw_in (by decide +kernel) rfl
theorem eL_49 : Cond.methodLink RL 49 yL_piece ∈ pw_T := pw_in (by decide +kernel) rfl
theorem tL_piece : Cond.static yL_piece ∈ pw_T := pw_in (by decide +kernel) rfl
theorem kL_piece : Cond.codeWith yL_piece cL_piece 8 (some .int) [(0, 16, 19, 13), (0, 16, 23, 15)] ∈ pw_T := pw_in (List.mem_of_getElem? (i := 212) rfl) rfl
theorem eL_17 : Cond.methodLink RL 17 yX1_piece ∈ pw_T := pw_in (by decide +kernel) rfl
theorem iP_piece : Cond.instanceMethod yX1_piece ∈ pw_T := pw_in (by decide +kernel) rfl
theorem sP_piece : Cond.selects RP yX1_piece yX1_piece ∈ pw_T := pw_in (by decide +kernel) rfl
theorem kP_piece : Cond.code yX1_piece cX1_piece 9 (some .int) ∈ pw_T := pw_in (List.mem_of_getElem? (i := 216) rfl) rfl
theorem tx40 : Cond.stringRef RP 40 "whole is not 1 .. 1480, or from is less than 0" ∈ lw_tbl := by decide +kernel
theorem tx42 : Cond.stringRef RP 42 "nothing was fed, or the piece goes beyond the whole" ∈ lw_tbl := by decide +kernel
theorem eP_48 : Cond.methodLink RP 48 yX1_beginOnBench ∈ pw_T := pw_in (by decide +kernel) rfl
theorem iP_beginOnBench : Cond.instanceMethod yX1_beginOnBench ∈ pw_T := pw_in (by decide +kernel) rfl
theorem kP_beginOnBench : Cond.code yX1_beginOnBench cX1_beginOnBench 6 (some .int) ∈ pw_T := pw_in (List.mem_of_getElem? (i := 222) rfl) rfl
theorem eP_115 : Cond.methodLink RP 115 yX1_forget ∈ pw_T := pw_in (by decide +kernel) rfl
theorem iP_forget : Cond.instanceMethod yX1_forget ∈ pw_T := pw_in (by decide +kernel) rfl
theorem kP_forget : Cond.code yX1_forget cX1_forget 4 none ∈ pw_T := pw_in (List.mem_of_getElem? (i := 226) rfl) rfl
theorem eP_118 : Cond.methodLinkNest RP 118 yX0_begin "PieceBench" ∈ lw_tbl := by decide +kernel
theorem iD_begin : Cond.instanceMethod yX0_begin ∈ pw_T := pw_in (by decide +kernel) rfl
theorem kD_begin : Cond.code yX0_begin cX0_begin 6 none ∈ pw_T := pw_in (List.mem_of_getElem? (i := 230) rfl) rfl
theorem eD_34 : Cond.methodLink RD 34 yF ∈ pw_T := pw_in (by decide +kernel) rfl
theorem tF : Cond.static yF ∈ pw_T := pw_in (by decide +kernel) rfl
theorem kF : Cond.code yF cF 4 none ∈ pw_T := pw_in (List.mem_of_getElem? (i := 233) rfl) rfl
theorem eP_55 : Cond.methodLinkNest RP 55 yX0_take "PieceBench" ∈ lw_tbl := by decide +kernel
theorem iD_take : Cond.instanceMethod yX0_take ∈ pw_T := pw_in (by decide +kernel) rfl
theorem kD_take : Cond.code yX0_take cX0_take 5 none ∈ pw_T := pw_in (List.mem_of_getElem? (i := 237) rfl) rfl
theorem eP_62 : Cond.methodLink RP 62 yX1_finish ∈ pw_T := pw_in (by decide +kernel) rfl
theorem iP_finish : Cond.instanceMethod yX1_finish ∈ pw_T := pw_in (by decide +kernel) rfl
theorem kP_finish : Cond.code yX1_finish cX1_finish 3 none ∈ pw_T := pw_in (List.mem_of_getElem? (i := 241) rfl) rfl
theorem eL_53 : Cond.methodLink RL 53 yL_pass ∈ pw_T := pw_in (by decide +kernel) rfl
theorem tL_pass : Cond.static yL_pass ∈ pw_T := pw_in (by decide +kernel) rfl
theorem kL_pass : Cond.codeWith yL_pass cL_pass 4 (some .int) [(0, 9, 12, 13), (0, 9, 15, 15)] ∈ pw_T := pw_in (List.mem_of_getElem? (i := 244) rfl) rfl
theorem eL_21 : Cond.methodLink RL 21 yX1_pass ∈ pw_T := pw_in (by decide +kernel) rfl
theorem iP_pass : Cond.instanceMethod yX1_pass ∈ pw_T := pw_in (by decide +kernel) rfl
theorem sP_pass : Cond.selects RP yX1_pass yX1_pass ∈ pw_T := pw_in (by decide +kernel) rfl
theorem kP_pass : Cond.code yX1_pass cX1_pass 2 (some .int) ∈ pw_T := pw_in (List.mem_of_getElem? (i := 248) rfl) rfl
theorem cP_66 : Cond.constant RP 66 1000000 ∈ pw_T := pw_in (by decide +kernel) rfl
theorem tx67 : Cond.stringRef RP 67 "n is not 0 .. 1000000" ∈ lw_tbl := by decide +kernel
theorem cP_69 : Cond.constant RP 69 1000000000 ∈ pw_T := pw_in (by decide +kernel) rfl
theorem tx73 : Cond.stringRef RP 73 "the time would be more than 1000000000" ∈ lw_tbl := by decide +kernel
theorem eP_75 : Cond.methodLink RP 75 yX1_giveUpOverdue ∈ pw_T := pw_in (by decide +kernel) rfl
theorem iP_giveUpOverdue : Cond.instanceMethod yX1_giveUpOverdue ∈ pw_T := pw_in (by decide +kernel) rfl
theorem kP_giveUpOverdue : Cond.code yX1_giveUpOverdue cX1_giveUpOverdue 2 (some .int) ∈ pw_T := pw_in (List.mem_of_getElem? (i := 256) rfl) rfl
theorem eL_57 : Cond.methodLink RL 57 yL_about ∈ pw_T := pw_in (by decide +kernel) rfl
theorem tL_about : Cond.static yL_about ∈ pw_T := pw_in (by decide +kernel) rfl
theorem kL_about : Cond.codeWith yL_about cL_about 4 (some .int) [(0, 9, 12, 13), (0, 9, 15, 15)] ∈ pw_T := pw_in (List.mem_of_getElem? (i := 259) rfl) rfl
theorem eL_25 : Cond.methodLink RL 25 yX1_about ∈ pw_T := pw_in (by decide +kernel) rfl
theorem iP_about : Cond.instanceMethod yX1_about ∈ pw_T := pw_in (by decide +kernel) rfl
theorem sP_about : Cond.selects RP yX1_about yX1_about ∈ pw_T := pw_in (by decide +kernel) rfl
theorem kP_about : Cond.code yX1_about cX1_about 2 (some .int) ∈ pw_T := pw_in (List.mem_of_getElem? (i := 263) rfl) rfl
theorem tx79 : Cond.stringRef RP 79 "what is not 0 .. 3" ∈ lw_tbl := by decide +kernel
theorem tx85 : Cond.stringRef RP 85 "no datagram was whole" ∈ lw_tbl := by decide +kernel
theorem eL_60 : Cond.methodLink RL 60 yL_byteAt ∈ pw_T := pw_in (by decide +kernel) rfl
theorem tL_byteAt : Cond.static yL_byteAt ∈ pw_T := pw_in (by decide +kernel) rfl
theorem kL_byteAt : Cond.codeWith yL_byteAt cL_byteAt 4 (some .int) [(0, 9, 12, 15), (0, 9, 15, 31)] ∈ pw_T := pw_in (List.mem_of_getElem? (i := 268) rfl) rfl
theorem eL_31 : Cond.classLink RL 31 "java/lang/IndexOutOfBoundsException" ∈ pw_T := pw_in (by decide +kernel) rfl
theorem cl_exIB : Cond.classLink RL 31 exIB ∈ pw_T := pw_in (by decide +kernel) rfl
theorem eL_28 : Cond.methodLink RL 28 yX1_byteAt ∈ pw_T := pw_in (by decide +kernel) rfl
theorem iP_byteAt : Cond.instanceMethod yX1_byteAt ∈ pw_T := pw_in (by decide +kernel) rfl
theorem sP_byteAt : Cond.selects RP yX1_byteAt yX1_byteAt ∈ pw_T := pw_in (by decide +kernel) rfl
theorem kP_byteAt : Cond.code yX1_byteAt cX1_byteAt 2 (some .int) ∈ pw_T := pw_in (List.mem_of_getElem? (i := 273) rfl) rfl
theorem eP_96 : Cond.classLink RP 96 "java/lang/IndexOutOfBoundsException" ∈ pw_T := pw_in (by decide +kernel) rfl
theorem ct_exIB : Cond.castable exIB exIB ∈ lw_tbl := by decide +kernel
theorem tx98 : Cond.stringRef RP 98 "the datagram has no such byte" ∈ lw_tbl := by decide +kernel
theorem eP_100 : Cond.methodLink RP 100 ⟨"java/lang/IndexOutOfBoundsException", "<init>", "(Ljava/lang/String;)V"⟩ ∈ pw_T := pw_in (by decide +kernel) rfl
theorem eL_34 : Cond.classLink RL 34 RM ∈ pw_T := pw_in (by decide +kernel) rfl
theorem nwM : Cond.instantiable RM 17 ∈ pw_T := pw_in (by decide +kernel) rfl
theorem eL_36 : Cond.methodLink RL 36 yM_init ∈ pw_T := pw_in (by decide +kernel) rfl
theorem iM_init : Cond.instanceMethod yM_init ∈ pw_T := pw_in (by decide +kernel) rfl
theorem kM_init : Cond.code yM_init cM_init 1 none ∈ pw_T := pw_in (List.mem_of_getElem? (i := 294) rfl) rfl
theorem eM_1 : Cond.methodLink RM 1 objectInit ∈ pw_T := pw_in (by decide +kernel) rfl
theorem eM_34 : Cond.fieldLink RM 34 "PieceBenchModel" "code" "I" ∈ pw_T := pw_in (by decide +kernel) rfl
theorem eM_50 : Cond.fieldLink RM 50 "PieceBenchModel" "time" "I" ∈ pw_T := pw_in (by decide +kernel) rfl
theorem eM_38 : Cond.fieldLink RM 38 "PieceBenchModel" "fedCount" "I" ∈ pw_T := pw_in (by decide +kernel) rfl
theorem eM_7 : Cond.fieldLink RM 7 "PieceBenchModel" "fed" "[I" ∈ pw_T := pw_in (by decide +kernel) rfl
theorem eM_43 : Cond.fieldLink RM 43 "PieceBenchModel" "count" "I" ∈ pw_T := pw_in (by decide +kernel) rfl
theorem eM_13 : Cond.fieldLink RM 13 "PieceBenchModel" "source" "[I" ∈ pw_T := pw_in (by decide +kernel) rfl
theorem eM_16 : Cond.fieldLink RM 16 "PieceBenchModel" "goal" "[I" ∈ pw_T := pw_in (by decide +kernel) rfl
theorem eM_19 : Cond.fieldLink RM 19 "PieceBenchModel" "number" "[I" ∈ pw_T := pw_in (by decide +kernel) rfl
theorem eM_22 : Cond.fieldLink RM 22 "PieceBenchModel" "since" "[I" ∈ pw_T := pw_in (by decide +kernel) rfl
theorem eM_25 : Cond.fieldLink RM 25 "PieceBenchModel" "whole" "[I" ∈ pw_T := pw_in (by decide +kernel) rfl
theorem eM_28 : Cond.fieldLink RM 28 "PieceBenchModel" "place" "[I" ∈ pw_T := pw_in (by decide +kernel) rfl
theorem eM_53 : Cond.fieldLink RM 53 "PieceBenchModel" "some" "Z" ∈ pw_T := pw_in (by decide +kernel) rfl
theorem eM_57 : Cond.fieldLink RM 57 "PieceBenchModel" "madeSource" "I" ∈ pw_T := pw_in (by decide +kernel) rfl
theorem eM_60 : Cond.fieldLink RM 60 "PieceBenchModel" "madeGoal" "I" ∈ pw_T := pw_in (by decide +kernel) rfl
theorem eM_63 : Cond.fieldLink RM 63 "PieceBenchModel" "madeNumber" "I" ∈ pw_T := pw_in (by decide +kernel) rfl
theorem eM_66 : Cond.fieldLink RM 66 "PieceBenchModel" "madeCount" "I" ∈ pw_T := pw_in (by decide +kernel) rfl
theorem eM_31 : Cond.fieldLink RM 31 "PieceBenchModel" "made" "[I" ∈ pw_T := pw_in (by decide +kernel) rfl
theorem eL_45 : Cond.methodLink RL 45 yM_thrown ∈ pw_T := pw_in (by decide +kernel) rfl
theorem iM_thrown : Cond.instanceMethod yM_thrown ∈ pw_T := pw_in (by decide +kernel) rfl
theorem sM_thrown : Cond.selects RM yM_thrown yM_thrown ∈ pw_T := pw_in (by decide +kernel) rfl
theorem kM_thrown : Cond.code yM_thrown cM_thrown 1 (some .int) ∈ pw_T := pw_in (List.mem_of_getElem? (i := 351) rfl) rfl
theorem eL_44 : Cond.methodLink RL 44 yM_feed ∈ pw_T := pw_in (by decide +kernel) rfl
theorem iM_feed : Cond.instanceMethod yM_feed ∈ pw_T := pw_in (by decide +kernel) rfl
theorem sM_feed : Cond.selects RM yM_feed yM_feed ∈ pw_T := pw_in (by decide +kernel) rfl
theorem kM_feed : Cond.code yM_feed cM_feed 5 (some .int) ∈ pw_T := pw_in (List.mem_of_getElem? (i := 355) rfl) rfl
theorem cM_41 : Cond.constantLong RM 41 255 ∈ pw_T := pw_in (by decide +kernel) rfl
theorem eL_52 : Cond.methodLink RL 52 yM_piece ∈ pw_T := pw_in (by decide +kernel) rfl
theorem iM_piece : Cond.instanceMethod yM_piece ∈ pw_T := pw_in (by decide +kernel) rfl
theorem sM_piece : Cond.selects RM yM_piece yM_piece ∈ pw_T := pw_in (by decide +kernel) rfl
theorem kM_piece : Cond.code yM_piece cM_piece 10 (some .int) ∈ pw_T := pw_in (List.mem_of_getElem? (i := 360) rfl) rfl
theorem eM_69 : Cond.methodLink RM 69 yM_find ∈ pw_T := pw_in (by decide +kernel) rfl
theorem iM_find : Cond.instanceMethod yM_find ∈ pw_T := pw_in (by decide +kernel) rfl
theorem kM_find : Cond.code yM_find cM_find 6 (some .int) ∈ pw_T := pw_in (List.mem_of_getElem? (i := 364) rfl) rfl
theorem eM_73 : Cond.methodLink RM 73 yM_begin ∈ pw_T := pw_in (by decide +kernel) rfl
theorem iM_begin : Cond.instanceMethod yM_begin ∈ pw_T := pw_in (by decide +kernel) rfl
theorem kM_begin : Cond.code yM_begin cM_begin 6 none ∈ pw_T := pw_in (List.mem_of_getElem? (i := 368) rfl) rfl
theorem eM_46 : Cond.methodLink RM 46 yM_forget ∈ pw_T := pw_in (by decide +kernel) rfl
theorem iM_forget : Cond.instanceMethod yM_forget ∈ pw_T := pw_in (by decide +kernel) rfl
theorem kM_forget : Cond.code yM_forget cM_forget 4 none ∈ pw_T := pw_in (List.mem_of_getElem? (i := 372) rfl) rfl
theorem eM_77 : Cond.methodLink RM 77 yM_lacks ∈ pw_T := pw_in (by decide +kernel) rfl
theorem iM_lacks : Cond.instanceMethod yM_lacks ∈ pw_T := pw_in (by decide +kernel) rfl
theorem kM_lacks : Cond.code yM_lacks cM_lacks 4 (some .int) ∈ pw_T := pw_in (List.mem_of_getElem? (i := 376) rfl) rfl
theorem eM_81 : Cond.methodLink RM 81 yM_finish ∈ pw_T := pw_in (by decide +kernel) rfl
theorem iM_finish : Cond.instanceMethod yM_finish ∈ pw_T := pw_in (by decide +kernel) rfl
theorem kM_finish : Cond.code yM_finish cM_finish 3 none ∈ pw_T := pw_in (List.mem_of_getElem? (i := 380) rfl) rfl
theorem eL_56 : Cond.methodLink RL 56 yM_pass ∈ pw_T := pw_in (by decide +kernel) rfl
theorem iM_pass : Cond.instanceMethod yM_pass ∈ pw_T := pw_in (by decide +kernel) rfl
theorem sM_pass : Cond.selects RM yM_pass yM_pass ∈ pw_T := pw_in (by decide +kernel) rfl
theorem kM_pass : Cond.code yM_pass cM_pass 3 (some .int) ∈ pw_T := pw_in (List.mem_of_getElem? (i := 384) rfl) rfl
theorem cM_84 : Cond.constant RM 84 1000000 ∈ pw_T := pw_in (by decide +kernel) rfl
theorem cM_85 : Cond.constant RM 85 1000000000 ∈ pw_T := pw_in (by decide +kernel) rfl
theorem eL_59 : Cond.methodLink RL 59 yM_about ∈ pw_T := pw_in (by decide +kernel) rfl
theorem iM_about : Cond.instanceMethod yM_about ∈ pw_T := pw_in (by decide +kernel) rfl
theorem sM_about : Cond.selects RM yM_about yM_about ∈ pw_T := pw_in (by decide +kernel) rfl
theorem kM_about : Cond.code yM_about cM_about 2 (some .int) ∈ pw_T := pw_in (List.mem_of_getElem? (i := 390) rfl) rfl
theorem eL_62 : Cond.methodLink RL 62 yM_byteAt ∈ pw_T := pw_in (by decide +kernel) rfl
theorem iM_byteAt : Cond.instanceMethod yM_byteAt ∈ pw_T := pw_in (by decide +kernel) rfl
theorem sM_byteAt : Cond.selects RM yM_byteAt yM_byteAt ∈ pw_T := pw_in (by decide +kernel) rfl
theorem kM_byteAt : Cond.code yM_byteAt cM_byteAt 2 (some .int) ∈ pw_T := pw_in (List.mem_of_getElem? (i := 394) rfl) rfl
theorem eL_67 : Cond.methodLink RL 67 yM_missing ∈ pw_T := pw_in (by decide +kernel) rfl
theorem iM_missing : Cond.instanceMethod yM_missing ∈ pw_T := pw_in (by decide +kernel) rfl
theorem sM_missing : Cond.selects RM yM_missing yM_missing ∈ pw_T := pw_in (by decide +kernel) rfl
theorem kM_missing : Cond.code yM_missing cM_missing 5 (some .int) ∈ pw_T := pw_in (List.mem_of_getElem? (i := 398) rfl) rfl
theorem eL_72 : Cond.methodLink RL 72 yM_has ∈ pw_T := pw_in (by decide +kernel) rfl
theorem iM_has : Cond.instanceMethod yM_has ∈ pw_T := pw_in (by decide +kernel) rfl
theorem sM_has : Cond.selects RM yM_has yM_has ∈ pw_T := pw_in (by decide +kernel) rfl
theorem kM_has : Cond.code yM_has cM_has 6 (some .boolean) ∈ pw_T := pw_in (List.mem_of_getElem? (i := 402) rfl) rfl
theorem eL_76 : Cond.methodLink RL 76 yM_waiting ∈ pw_T := pw_in (by decide +kernel) rfl
theorem iM_waiting : Cond.instanceMethod yM_waiting ∈ pw_T := pw_in (by decide +kernel) rfl
theorem sM_waiting : Cond.selects RM yM_waiting yM_waiting ∈ pw_T := pw_in (by decide +kernel) rfl
theorem kM_waiting : Cond.code yM_waiting cM_waiting 1 (some .int) ∈ pw_T := pw_in (List.mem_of_getElem? (i := 406) rfl) rfl
theorem cL_37 : Cond.constantLong RL 37 4294967295 ∈ pw_T := pw_in (by decide +kernel) rfl
theorem arL : Cond.arrayClass .long ∈ pw_T := pw_in (by decide +kernel) rfl
theorem sP_placeOf : Cond.selects RP yX1_placeOf yX1_placeOf ∈ pw_T := pw_in (by decide +kernel) rfl
theorem sP_beginOnBench : Cond.selects RP yX1_beginOnBench yX1_beginOnBench ∈ pw_T := pw_in (by decide +kernel) rfl
theorem sP_forget : Cond.selects RP yX1_forget yX1_forget ∈ pw_T := pw_in (by decide +kernel) rfl
theorem sP_finish : Cond.selects RP yX1_finish yX1_finish ∈ pw_T := pw_in (by decide +kernel) rfl
theorem sP_giveUpOverdue : Cond.selects RP yX1_giveUpOverdue yX1_giveUpOverdue ∈ pw_T := pw_in (by decide +kernel) rfl
theorem sD_isTold : Cond.selects RD yX0_isTold yX0_isTold ∈ pw_T := pw_in (by decide +kernel) rfl
theorem sD_holds : Cond.selects RD yX0_holds yX0_holds ∈ pw_T := pw_in (by decide +kernel) rfl
theorem sD_begin : Cond.selects RD yX0_begin yX0_begin ∈ pw_T := pw_in (by decide +kernel) rfl
theorem sD_take : Cond.selects RD yX0_take yX0_take ∈ pw_T := pw_in (by decide +kernel) rfl
theorem sM_find : Cond.selects RM yM_find yM_find ∈ pw_T := pw_in (by decide +kernel) rfl
theorem sM_begin : Cond.selects RM yM_begin yM_begin ∈ pw_T := pw_in (by decide +kernel) rfl
theorem sM_forget : Cond.selects RM yM_forget yM_forget ∈ pw_T := pw_in (by decide +kernel) rfl
theorem sM_lacks : Cond.selects RM yM_lacks yM_lacks ∈ pw_T := pw_in (by decide +kernel) rfl
theorem sM_finish : Cond.selects RM yM_finish yM_finish ∈ pw_T := pw_in (by decide +kernel) rfl
set_option maxRecDepth 20000 in
theorem at24_28_ok : ∀ w ∈ vx_atS RP 28 exIA exN, w ∈ lw_tbl ∧ (goodWord w || pw_cd w) = true := by decide +kernel
set_option maxRecDepth 20000 in
theorem gd24_28_ok : ∀ w ∈ Cond.classLink RP 24 exIA :: Cond.initialized exIA :: vx_atS RP 28 exIA exN, vx_ot w = true := by decide +kernel
set_option maxRecDepth 20000 in
theorem at35_39_ok : ∀ w ∈ vx_atS RP 39 exIS exN, w ∈ lw_tbl ∧ (goodWord w || pw_cd w) = true := by decide +kernel
set_option maxRecDepth 20000 in
theorem gd35_39_ok : ∀ w ∈ Cond.classLink RP 35 exIS :: Cond.initialized exIS :: vx_atS RP 39 exIS exN, vx_ot w = true := by decide +kernel
set_option maxRecDepth 20000 in
theorem at96_100_ok : ∀ w ∈ vx_atS RP 100 exIB exN, w ∈ lw_tbl ∧ (goodWord w || pw_cd w) = true := by decide +kernel
set_option maxRecDepth 20000 in
theorem gd96_100_ok : ∀ w ∈ Cond.classLink RP 96 exIB :: Cond.initialized exIB :: vx_atS RP 100 exIB exN, vx_ot w = true := by decide +kernel
theorem nc_exIS_exIA : Cond.not (.castable exIS exIA) ∈ flatC (Jvm.Cond.and given_1 narrow_1) := by decide +kernel
theorem nc_exIB_exIS : Cond.not (.castable exIB exIS) ∈ flatC (Jvm.Cond.and given_1 narrow_1) := by decide +kernel
