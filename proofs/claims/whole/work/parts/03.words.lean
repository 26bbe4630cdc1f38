set_option maxRecDepth 20000 in
theorem qn_L : Cond.initialized RL ∈ WL := wl_of (in_t1 (List.mem_of_getElem? (i := 0) rfl)) rfl
set_option maxRecDepth 20000 in
theorem qn_X10 : Cond.initialized RX10 ∈ WL := wl_of (in_t1 (List.mem_of_getElem? (i := 1) rfl)) rfl
set_option maxRecDepth 20000 in
theorem qn_X4 : Cond.initialized RX4 ∈ WL := wl_of (in_t1 (List.mem_of_getElem? (i := 2) rfl)) rfl
set_option maxRecDepth 20000 in
theorem qn_X8 : Cond.initialized RX8 ∈ WL := wl_of (in_t1 (List.mem_of_getElem? (i := 3) rfl)) rfl
set_option maxRecDepth 20000 in
theorem qn_X5 : Cond.initialized RX5 ∈ WL := wl_of (in_t1 (List.mem_of_getElem? (i := 4) rfl)) rfl
set_option maxRecDepth 20000 in
theorem qn_X6 : Cond.initialized RX6 ∈ WL := wl_of (in_t1 (List.mem_of_getElem? (i := 5) rfl)) rfl
set_option maxRecDepth 20000 in
theorem qn_X7 : Cond.initialized RX7 ∈ WL := wl_of (in_t1 (List.mem_of_getElem? (i := 6) rfl)) rfl
set_option maxRecDepth 20000 in
theorem qn_X1 : Cond.initialized RX1 ∈ WL := wl_of (in_t1 (List.mem_of_getElem? (i := 7) rfl)) rfl
set_option maxRecDepth 20000 in
theorem qn_X3 : Cond.initialized RX3 ∈ WL := wl_of (in_t1 (List.mem_of_getElem? (i := 8) rfl)) rfl
set_option maxRecDepth 20000 in
theorem qn_X9 : Cond.initialized RX9 ∈ WL := wl_of (in_t1 (List.mem_of_getElem? (i := 9) rfl)) rfl
set_option maxRecDepth 20000 in
theorem qn_X0 : Cond.initialized RX0 ∈ WL := wl_of (in_t1 (List.mem_of_getElem? (i := 10) rfl)) rfl
set_option maxRecDepth 20000 in
theorem qn_X2 : Cond.initialized RX2 ∈ WL := wl_of (in_t1 (List.mem_of_getElem? (i := 11) rfl)) rfl
set_option maxRecDepth 20000 in
theorem qn_X11 : Cond.initialized RX11 ∈ WL := wl_of (in_t1 (List.mem_of_getElem? (i := 12) rfl)) rfl
set_option maxRecDepth 20000 in
theorem qn_J7 : Cond.initialized RJ7 ∈ WL := wl_of (in_t1 (List.mem_of_getElem? (i := 13) rfl)) rfl
set_option maxRecDepth 20000 in
theorem qn_J0 : Cond.initialized RJ0 ∈ WL := wl_of (in_t1 (List.mem_of_getElem? (i := 14) rfl)) rfl
set_option maxRecDepth 20000 in
theorem qn_J1 : Cond.initialized RJ1 ∈ WL := wl_of (in_t1 (List.mem_of_getElem? (i := 15) rfl)) rfl
set_option maxRecDepth 20000 in
theorem qn_J3 : Cond.initialized RJ3 ∈ WL := wl_of (in_t1 (List.mem_of_getElem? (i := 16) rfl)) rfl
set_option maxRecDepth 20000 in
theorem qn_J2 : Cond.initialized RJ2 ∈ WL := wl_of (in_t1 (List.mem_of_getElem? (i := 17) rfl)) rfl
set_option maxRecDepth 20000 in
theorem qn_J9 : Cond.initialized RJ9 ∈ WL := wl_of (in_t1 (List.mem_of_getElem? (i := 18) rfl)) rfl
set_option maxRecDepth 20000 in
theorem qn_J10 : Cond.initialized RJ10 ∈ WL := wl_of (in_t1 (List.mem_of_getElem? (i := 19) rfl)) rfl
set_option maxRecDepth 20000 in
theorem qn_Jxd2413 : Cond.initialized RJxd2413 ∈ WL := wl_of (in_t1 (List.mem_of_getElem? (i := 20) rfl)) rfl
set_option maxRecDepth 20000 in
theorem qn_Jxe99ae : Cond.initialized RJxe99ae ∈ WL := wl_of (in_t1 (List.mem_of_getElem? (i := 21) rfl)) rfl
set_option maxRecDepth 20000 in
theorem qn_Jxf58ca : Cond.initialized RJxf58ca ∈ WL := wl_of (in_t1 (List.mem_of_getElem? (i := 22) rfl)) rfl
set_option maxRecDepth 20000 in
theorem ql_L_7 : Cond.classLink RL 7 RX10 ∈ WL := wl_of (in_t1 (List.mem_of_getElem? (i := 23) rfl)) rfl
set_option maxRecDepth 20000 in
theorem qb_X10 : Cond.instantiable RX10 6 ∈ WL := wl_of (in_t1 (List.mem_of_getElem? (i := 24) rfl)) rfl
set_option maxRecDepth 20000 in
theorem qm_L_9 : Cond.methodLink RL 9 yX10_init ∈ WL := wl_of (in_t1 (List.mem_of_getElem? (i := 25) rfl)) rfl
set_option maxRecDepth 20000 in
theorem qi_X10_init : Cond.instanceMethod yX10_init ∈ WL := wl_of (in_t1 (List.mem_of_getElem? (i := 26) rfl)) rfl
set_option maxRecDepth 20000 in
theorem qc_X10_init : Cond.code yX10_init cX10_init 1 (none : Option FieldType) ∈ WL := wl_of (in_t1 (List.mem_of_getElem? (i := 27) rfl)) rfl
set_option maxRecDepth 20000 in
theorem qm_X10_1 : Cond.methodLink RX10 1 ⟨"java/lang/Object", "<init>", "()V"⟩ ∈ WL := wl_of (in_t1 (List.mem_of_getElem? (i := 28) rfl)) rfl
set_option maxRecDepth 20000 in
theorem qi_java_lang_Object__init_ : Cond.instanceMethod ⟨"java/lang/Object", "<init>", "()V"⟩ ∈ WL := wl_of (in_t1 (List.mem_of_getElem? (i := 29) rfl)) rfl
set_option maxRecDepth 20000 in
theorem ql_X10_7 : Cond.classLink RX10 7 RX4 ∈ WL := wl_of (in_t1 (List.mem_of_getElem? (i := 31) rfl)) rfl
set_option maxRecDepth 20000 in
theorem qb_X4 : Cond.instantiable RX4 4 ∈ WL := wl_of (in_t1 (List.mem_of_getElem? (i := 32) rfl)) rfl
set_option maxRecDepth 20000 in
theorem qi_X4_init : Cond.instanceMethod yX4_init ∈ WL := wl_of (in_t1 (List.mem_of_getElem? (i := 34) rfl)) rfl
set_option maxRecDepth 20000 in
theorem qc_X4_init : Cond.code yX4_init cX4_init 1 (none : Option FieldType) ∈ WL := wl_of (in_t1 (List.mem_of_getElem? (i := 35) rfl)) rfl
set_option maxRecDepth 20000 in
theorem qm_X4_3 : Cond.methodLink RX4 3 ⟨"java/lang/Object", "<init>", "()V"⟩ ∈ WL := wl_of (in_t1 (List.mem_of_getElem? (i := 36) rfl)) rfl
set_option maxRecDepth 20000 in
theorem ql_X4_9 : Cond.classLink RX4 9 RX8 ∈ WL := wl_of (in_t1 (List.mem_of_getElem? (i := 37) rfl)) rfl
set_option maxRecDepth 20000 in
theorem qb_X8 : Cond.instantiable RX8 2 ∈ WL := wl_of (in_t1 (List.mem_of_getElem? (i := 38) rfl)) rfl
set_option maxRecDepth 20000 in
theorem qi_X8_init : Cond.instanceMethod yX8_init ∈ WL := wl_of (in_t1 (List.mem_of_getElem? (i := 40) rfl)) rfl
set_option maxRecDepth 20000 in
theorem qc_X8_init : Cond.code yX8_init cX8_init 1 (none : Option FieldType) ∈ WL := wl_of (in_t1 (List.mem_of_getElem? (i := 41) rfl)) rfl
set_option maxRecDepth 20000 in
theorem qm_X8_3 : Cond.methodLink RX8 3 ⟨"java/lang/Object", "<init>", "()V"⟩ ∈ WL := wl_of (in_t1 (List.mem_of_getElem? (i := 42) rfl)) rfl
set_option maxRecDepth 20000 in
theorem qf_X8_9 : Cond.fieldLink RX8 9 "QuotaLicences$Tape" "bytes" "[B" ∈ WL := wl_of (in_t1 (List.mem_of_getElem? (i := 43) rfl)) rfl
set_option maxRecDepth 20000 in
theorem qf_X4_83 : Cond.fieldLink RX4 83 "QuotaLicences$Tape" "bytes" "[B" ∈ WL := wl_of (in_t1 (List.mem_of_getElem? (i := 44) rfl)) rfl
set_option maxRecDepth 20000 in
theorem qf_X8_15 : Cond.fieldLink RX8 15 "QuotaLicences$Tape" "length" "I" ∈ WL := wl_of (in_t1 (List.mem_of_getElem? (i := 45) rfl)) rfl
set_option maxRecDepth 20000 in
theorem qf_X4_51 : Cond.fieldLink RX4 51 "QuotaLicences$Tape" "length" "I" ∈ WL := wl_of (in_t1 (List.mem_of_getElem? (i := 46) rfl)) rfl
set_option maxRecDepth 20000 in
theorem qf_X10_66 : Cond.fieldLink RX10 66 "QuotaLicences$Tape" "length" "I" ∈ WL := wl_of (in_t1 (List.mem_of_getElem? (i := 47) rfl)) rfl
set_option maxRecDepth 20000 in
theorem qa_byte : Cond.arrayClass FieldType.byte ∈ WL := wl_of (in_t1 (List.mem_of_getElem? (i := 53) rfl)) rfl
set_option maxRecDepth 20000 in
theorem ql_X4_18 : Cond.classLink RX4 18 RX5 ∈ WL := wl_of (in_t1 (List.mem_of_getElem? (i := 54) rfl)) rfl
set_option maxRecDepth 20000 in
theorem qb_X5 : Cond.instantiable RX5 5 ∈ WL := wl_of (in_t1 (List.mem_of_getElem? (i := 55) rfl)) rfl
set_option maxRecDepth 20000 in
theorem qi_X5_init : Cond.instanceMethod yX5_init ∈ WL := wl_of (in_t1 (List.mem_of_getElem? (i := 57) rfl)) rfl
set_option maxRecDepth 20000 in
theorem qc_X5_init : Cond.code yX5_init cX5_init 1 (none : Option FieldType) ∈ WL := wl_of (in_t1 (List.mem_of_getElem? (i := 58) rfl)) rfl
set_option maxRecDepth 20000 in
theorem qm_X5_3 : Cond.methodLink RX5 3 ⟨"java/lang/Object", "<init>", "()V"⟩ ∈ WL := wl_of (in_t1 (List.mem_of_getElem? (i := 59) rfl)) rfl
set_option maxRecDepth 20000 in
theorem qf_X5_9 : Cond.fieldLink RX5 9 "QuotaLicences$Scheme" "terms" "[I" ∈ WL := wl_of (in_t1 (List.mem_of_getElem? (i := 60) rfl)) rfl
set_option maxRecDepth 20000 in
theorem qf_X6_32 : Cond.fieldLink RX6 32 "QuotaLicences$Scheme" "terms" "[I" ∈ WL := wl_of (in_t1 (List.mem_of_getElem? (i := 61) rfl)) rfl
set_option maxRecDepth 20000 in
theorem qf_X4_69 : Cond.fieldLink RX4 69 "QuotaLicences$Scheme" "terms" "[I" ∈ WL := wl_of (in_t1 (List.mem_of_getElem? (i := 62) rfl)) rfl
set_option maxRecDepth 20000 in
theorem qf_X7_132 : Cond.fieldLink RX7 132 "QuotaLicences$Scheme" "terms" "[I" ∈ WL := wl_of (in_t1 (List.mem_of_getElem? (i := 63) rfl)) rfl
set_option maxRecDepth 20000 in
theorem qf_X10_207 : Cond.fieldLink RX10 207 "QuotaLicences$Scheme" "terms" "[I" ∈ WL := wl_of (in_t1 (List.mem_of_getElem? (i := 64) rfl)) rfl
set_option maxRecDepth 20000 in
theorem qf_X5_15 : Cond.fieldLink RX5 15 "QuotaLicences$Scheme" "quotas" "[I" ∈ WL := wl_of (in_t1 (List.mem_of_getElem? (i := 65) rfl)) rfl
set_option maxRecDepth 20000 in
theorem qf_X6_42 : Cond.fieldLink RX6 42 "QuotaLicences$Scheme" "quotas" "[I" ∈ WL := wl_of (in_t1 (List.mem_of_getElem? (i := 66) rfl)) rfl
set_option maxRecDepth 20000 in
theorem qf_X4_103 : Cond.fieldLink RX4 103 "QuotaLicences$Scheme" "quotas" "[I" ∈ WL := wl_of (in_t1 (List.mem_of_getElem? (i := 67) rfl)) rfl
set_option maxRecDepth 20000 in
theorem qf_X7_108 : Cond.fieldLink RX7 108 "QuotaLicences$Scheme" "quotas" "[I" ∈ WL := wl_of (in_t1 (List.mem_of_getElem? (i := 68) rfl)) rfl
set_option maxRecDepth 20000 in
theorem qf_X10_195 : Cond.fieldLink RX10 195 "QuotaLicences$Scheme" "quotas" "[I" ∈ WL := wl_of (in_t1 (List.mem_of_getElem? (i := 69) rfl)) rfl
set_option maxRecDepth 20000 in
theorem qf_X5_18 : Cond.fieldLink RX5 18 "QuotaLicences$Scheme" "pasts" "[I" ∈ WL := wl_of (in_t1 (List.mem_of_getElem? (i := 70) rfl)) rfl
set_option maxRecDepth 20000 in
theorem qf_X6_21 : Cond.fieldLink RX6 21 "QuotaLicences$Scheme" "origins" "I" ∈ WL := wl_of (in_t1 (List.mem_of_getElem? (i := 71) rfl)) rfl
set_option maxRecDepth 20000 in
theorem qf_X5_27 : Cond.fieldLink RX5 27 "QuotaLicences$Scheme" "origins" "I" ∈ WL := wl_of (in_t1 (List.mem_of_getElem? (i := 72) rfl)) rfl
set_option maxRecDepth 20000 in
theorem qf_X4_48 : Cond.fieldLink RX4 48 "QuotaLicences$Scheme" "origins" "I" ∈ WL := wl_of (in_t1 (List.mem_of_getElem? (i := 73) rfl)) rfl
set_option maxRecDepth 20000 in
theorem qf_X7_91 : Cond.fieldLink RX7 91 "QuotaLicences$Scheme" "origins" "I" ∈ WL := wl_of (in_t1 (List.mem_of_getElem? (i := 74) rfl)) rfl
set_option maxRecDepth 20000 in
theorem qf_X10_82 : Cond.fieldLink RX10 82 "QuotaLicences$Scheme" "origins" "I" ∈ WL := wl_of (in_t1 (List.mem_of_getElem? (i := 75) rfl)) rfl
set_option maxRecDepth 20000 in
theorem qf_X5_31 : Cond.fieldLink RX5 31 "QuotaLicences$Scheme" "importers" "I" ∈ WL := wl_of (in_t1 (List.mem_of_getElem? (i := 76) rfl)) rfl
set_option maxRecDepth 20000 in
theorem qf_X6_45 : Cond.fieldLink RX6 45 "QuotaLicences$Scheme" "importers" "I" ∈ WL := wl_of (in_t1 (List.mem_of_getElem? (i := 77) rfl)) rfl
set_option maxRecDepth 20000 in
theorem qf_X7_94 : Cond.fieldLink RX7 94 "QuotaLicences$Scheme" "importers" "I" ∈ WL := wl_of (in_t1 (List.mem_of_getElem? (i := 78) rfl)) rfl
set_option maxRecDepth 20000 in
theorem qf_X4_107 : Cond.fieldLink RX4 107 "QuotaLicences$Scheme" "importers" "I" ∈ WL := wl_of (in_t1 (List.mem_of_getElem? (i := 79) rfl)) rfl
set_option maxRecDepth 20000 in
theorem qf_X10_281 : Cond.fieldLink RX10 281 "QuotaLicences$Scheme" "importers" "I" ∈ WL := wl_of (in_t1 (List.mem_of_getElem? (i := 80) rfl)) rfl
set_option maxRecDepth 20000 in
theorem qa_int : Cond.arrayClass FieldType.int ∈ WL := wl_of (in_t1 (List.mem_of_getElem? (i := 92) rfl)) rfl
set_option maxRecDepth 20000 in
theorem qf_X4_12 : Cond.fieldLink RX4 12 "QuotaLicences$Reader" "tape" "LQuotaLicences$Tape;" ∈ WL := wl_of (in_t1 (List.mem_of_getElem? (i := 93) rfl)) rfl
set_option maxRecDepth 20000 in
theorem qf_X10_48 : Cond.fieldLink RX10 48 "QuotaLicences$Reader" "tape" "LQuotaLicences$Tape;" ∈ WL := wl_of (in_t1 (List.mem_of_getElem? (i := 94) rfl)) rfl
set_option maxRecDepth 20000 in
theorem qf_X4_21 : Cond.fieldLink RX4 21 "QuotaLicences$Reader" "scheme" "LQuotaLicences$Scheme;" ∈ WL := wl_of (in_t1 (List.mem_of_getElem? (i := 95) rfl)) rfl
set_option maxRecDepth 20000 in
theorem qf_X10_70 : Cond.fieldLink RX10 70 "QuotaLicences$Reader" "scheme" "LQuotaLicences$Scheme;" ∈ WL := wl_of (in_t1 (List.mem_of_getElem? (i := 96) rfl)) rfl
set_option maxRecDepth 20000 in
theorem qf_X4_25 : Cond.fieldLink RX4 25 "QuotaLicences$Reader" "at" "I" ∈ WL := wl_of (in_t1 (List.mem_of_getElem? (i := 97) rfl)) rfl
set_option maxRecDepth 20000 in
theorem qf_X4_29 : Cond.fieldLink RX4 29 "QuotaLicences$Reader" "fault" "I" ∈ WL := wl_of (in_t1 (List.mem_of_getElem? (i := 98) rfl)) rfl
set_option maxRecDepth 20000 in
theorem ql_X10_16 : Cond.classLink RX10 16 RX6 ∈ WL := wl_of (in_t1 (List.mem_of_getElem? (i := 108) rfl)) rfl
set_option maxRecDepth 20000 in
theorem qb_X6 : Cond.instantiable RX6 3 ∈ WL := wl_of (in_t1 (List.mem_of_getElem? (i := 109) rfl)) rfl
set_option maxRecDepth 20000 in
theorem qi_X6_init : Cond.instanceMethod yX6_init ∈ WL := wl_of (in_t1 (List.mem_of_getElem? (i := 111) rfl)) rfl
set_option maxRecDepth 20000 in
theorem qc_X6_init : Cond.code yX6_init cX6_init 1 (none : Option FieldType) ∈ WL := wl_of (in_t1 (List.mem_of_getElem? (i := 112) rfl)) rfl
set_option maxRecDepth 20000 in
theorem qm_X6_3 : Cond.methodLink RX6 3 ⟨"java/lang/Object", "<init>", "()V"⟩ ∈ WL := wl_of (in_t1 (List.mem_of_getElem? (i := 113) rfl)) rfl
set_option maxRecDepth 20000 in
theorem qf_X6_9 : Cond.fieldLink RX6 9 "QuotaLicences$Spelling" "length" "I" ∈ WL := wl_of (in_t1 (List.mem_of_getElem? (i := 114) rfl)) rfl
set_option maxRecDepth 20000 in
theorem qf_X10_389 : Cond.fieldLink RX10 389 "QuotaLicences$Spelling" "length" "I" ∈ WL := wl_of (in_t1 (List.mem_of_getElem? (i := 115) rfl)) rfl
set_option maxRecDepth 20000 in
theorem qf_X6_15 : Cond.fieldLink RX6 15 "QuotaLicences$Spelling" "found" "I" ∈ WL := wl_of (in_t1 (List.mem_of_getElem? (i := 116) rfl)) rfl
set_option maxRecDepth 20000 in
theorem qf_X10_390 : Cond.fieldLink RX10 390 "QuotaLicences$Spelling" "found" "I" ∈ WL := wl_of (in_t1 (List.mem_of_getElem? (i := 117) rfl)) rfl
set_option maxRecDepth 20000 in
theorem qf_X6_18 : Cond.fieldLink RX6 18 "QuotaLicences$Spelling" "wanted" "I" ∈ WL := wl_of (in_t1 (List.mem_of_getElem? (i := 118) rfl)) rfl
set_option maxRecDepth 20000 in
theorem ql_X10_23 : Cond.classLink RX10 23 RX7 ∈ WL := wl_of (in_t1 (List.mem_of_getElem? (i := 126) rfl)) rfl
set_option maxRecDepth 20000 in
theorem qb_X7 : Cond.instantiable RX7 7 ∈ WL := wl_of (in_t1 (List.mem_of_getElem? (i := 127) rfl)) rfl
set_option maxRecDepth 20000 in
theorem qi_X7_init : Cond.instanceMethod yX7_init ∈ WL := wl_of (in_t1 (List.mem_of_getElem? (i := 129) rfl)) rfl
set_option maxRecDepth 20000 in
theorem qc_X7_init : Cond.code yX7_init cX7_init 1 (none : Option FieldType) ∈ WL := wl_of (in_t1 (List.mem_of_getElem? (i := 130) rfl)) rfl
set_option maxRecDepth 20000 in
theorem qm_X7_3 : Cond.methodLink RX7 3 ⟨"java/lang/Object", "<init>", "()V"⟩ ∈ WL := wl_of (in_t1 (List.mem_of_getElem? (i := 131) rfl)) rfl
set_option maxRecDepth 20000 in
theorem ql_X7_9 : Cond.classLink RX7 9 RX5 ∈ WL := wl_of (in_t1 (List.mem_of_getElem? (i := 132) rfl)) rfl
set_option maxRecDepth 20000 in
theorem ql_X7_18 : Cond.classLink RX7 18 RX1 ∈ WL := wl_of (in_t1 (List.mem_of_getElem? (i := 134) rfl)) rfl
set_option maxRecDepth 20000 in
theorem qb_X1 : Cond.instantiable RX1 11 ∈ WL := wl_of (in_t1 (List.mem_of_getElem? (i := 135) rfl)) rfl
set_option maxRecDepth 20000 in
theorem qi_X1_init : Cond.instanceMethod yX1_init ∈ WL := wl_of (in_t1 (List.mem_of_getElem? (i := 137) rfl)) rfl
set_option maxRecDepth 20000 in
theorem qc_X1_init : Cond.code yX1_init cX1_init 1 (none : Option FieldType) ∈ WL := wl_of (in_t1 (List.mem_of_getElem? (i := 138) rfl)) rfl
set_option maxRecDepth 20000 in
theorem qm_X1_3 : Cond.methodLink RX1 3 ⟨"java/lang/Object", "<init>", "()V"⟩ ∈ WL := wl_of (in_t1 (List.mem_of_getElem? (i := 139) rfl)) rfl
set_option maxRecDepth 20000 in
theorem qf_X1_9 : Cond.fieldLink RX1 9 "QuotaLicences$Book" "importer" "[I" ∈ WL := wl_of (in_t1 (List.mem_of_getElem? (i := 140) rfl)) rfl
set_option maxRecDepth 20000 in
theorem qf_X10_136 : Cond.fieldLink RX10 136 "QuotaLicences$Book" "importer" "[I" ∈ WL := wl_of (in_t1 (List.mem_of_getElem? (i := 141) rfl)) rfl
set_option maxRecDepth 20000 in
theorem qf_X7_209 : Cond.fieldLink RX7 209 "QuotaLicences$Book" "importer" "[I" ∈ WL := wl_of (in_t1 (List.mem_of_getElem? (i := 142) rfl)) rfl
set_option maxRecDepth 20000 in
theorem qf_X1_15 : Cond.fieldLink RX1 15 "QuotaLicences$Book" "origin" "[I" ∈ WL := wl_of (in_t1 (List.mem_of_getElem? (i := 143) rfl)) rfl
set_option maxRecDepth 20000 in
theorem qf_X7_212 : Cond.fieldLink RX7 212 "QuotaLicences$Book" "origin" "[I" ∈ WL := wl_of (in_t1 (List.mem_of_getElem? (i := 144) rfl)) rfl
set_option maxRecDepth 20000 in
theorem qf_X10_243 : Cond.fieldLink RX10 243 "QuotaLicences$Book" "origin" "[I" ∈ WL := wl_of (in_t1 (List.mem_of_getElem? (i := 145) rfl)) rfl
set_option maxRecDepth 20000 in
theorem qf_X1_18 : Cond.fieldLink RX1 18 "QuotaLicences$Book" "amount" "[I" ∈ WL := wl_of (in_t1 (List.mem_of_getElem? (i := 146) rfl)) rfl
set_option maxRecDepth 20000 in
theorem qf_X7_244 : Cond.fieldLink RX7 244 "QuotaLicences$Book" "amount" "[I" ∈ WL := wl_of (in_t1 (List.mem_of_getElem? (i := 147) rfl)) rfl
set_option maxRecDepth 20000 in
theorem qf_X10_246 : Cond.fieldLink RX10 246 "QuotaLicences$Book" "amount" "[I" ∈ WL := wl_of (in_t1 (List.mem_of_getElem? (i := 148) rfl)) rfl
set_option maxRecDepth 20000 in
theorem qf_X1_21 : Cond.fieldLink RX1 21 "QuotaLicences$Book" "issued" "[I" ∈ WL := wl_of (in_t1 (List.mem_of_getElem? (i := 149) rfl)) rfl
set_option maxRecDepth 20000 in
theorem qf_X7_189 : Cond.fieldLink RX7 189 "QuotaLicences$Book" "issued" "[I" ∈ WL := wl_of (in_t1 (List.mem_of_getElem? (i := 150) rfl)) rfl
set_option maxRecDepth 20000 in
theorem qf_X10_249 : Cond.fieldLink RX10 249 "QuotaLicences$Book" "issued" "[I" ∈ WL := wl_of (in_t1 (List.mem_of_getElem? (i := 151) rfl)) rfl
set_option maxRecDepth 20000 in
theorem qf_X1_24 : Cond.fieldLink RX1 24 "QuotaLicences$Book" "lastDay" "[I" ∈ WL := wl_of (in_t1 (List.mem_of_getElem? (i := 152) rfl)) rfl
set_option maxRecDepth 20000 in
theorem qf_X7_173 : Cond.fieldLink RX7 173 "QuotaLicences$Book" "lastDay" "[I" ∈ WL := wl_of (in_t1 (List.mem_of_getElem? (i := 153) rfl)) rfl
set_option maxRecDepth 20000 in
theorem qf_X10_258 : Cond.fieldLink RX10 258 "QuotaLicences$Book" "lastDay" "[I" ∈ WL := wl_of (in_t1 (List.mem_of_getElem? (i := 154) rfl)) rfl
set_option maxRecDepth 20000 in
theorem qf_X1_27 : Cond.fieldLink RX1 27 "QuotaLicences$Book" "used" "[I" ∈ WL := wl_of (in_t1 (List.mem_of_getElem? (i := 155) rfl)) rfl
set_option maxRecDepth 20000 in
theorem qf_X7_215 : Cond.fieldLink RX7 215 "QuotaLicences$Book" "used" "[I" ∈ WL := wl_of (in_t1 (List.mem_of_getElem? (i := 156) rfl)) rfl
set_option maxRecDepth 20000 in
theorem qf_X10_252 : Cond.fieldLink RX10 252 "QuotaLicences$Book" "used" "[I" ∈ WL := wl_of (in_t1 (List.mem_of_getElem? (i := 157) rfl)) rfl
set_option maxRecDepth 20000 in
theorem qf_X1_30 : Cond.fieldLink RX1 30 "QuotaLicences$Book" "stand" "[I" ∈ WL := wl_of (in_t1 (List.mem_of_getElem? (i := 158) rfl)) rfl
set_option maxRecDepth 20000 in
theorem qf_X10_255 : Cond.fieldLink RX10 255 "QuotaLicences$Book" "stand" "[I" ∈ WL := wl_of (in_t1 (List.mem_of_getElem? (i := 159) rfl)) rfl
set_option maxRecDepth 20000 in
theorem qf_X1_33 : Cond.fieldLink RX1 33 "QuotaLicences$Book" "endedOn" "[I" ∈ WL := wl_of (in_t1 (List.mem_of_getElem? (i := 160) rfl)) rfl
set_option maxRecDepth 20000 in
theorem qf_X1_36 : Cond.fieldLink RX1 36 "QuotaLicences$Book" "from" "[I" ∈ WL := wl_of (in_t1 (List.mem_of_getElem? (i := 161) rfl)) rfl
set_option maxRecDepth 20000 in
theorem qf_X10_347 : Cond.fieldLink RX10 347 "QuotaLicences$Book" "from" "[I" ∈ WL := wl_of (in_t1 (List.mem_of_getElem? (i := 162) rfl)) rfl
set_option maxRecDepth 20000 in
theorem qf_X1_39 : Cond.fieldLink RX1 39 "QuotaLicences$Book" "waited" "[I" ∈ WL := wl_of (in_t1 (List.mem_of_getElem? (i := 163) rfl)) rfl
set_option maxRecDepth 20000 in
theorem qf_X7_218 : Cond.fieldLink RX7 218 "QuotaLicences$Book" "waited" "[I" ∈ WL := wl_of (in_t1 (List.mem_of_getElem? (i := 164) rfl)) rfl
set_option maxRecDepth 20000 in
theorem qf_X10_299 : Cond.fieldLink RX10 299 "QuotaLicences$Book" "waited" "[I" ∈ WL := wl_of (in_t1 (List.mem_of_getElem? (i := 165) rfl)) rfl
set_option maxRecDepth 20000 in
theorem qf_X1_42 : Cond.fieldLink RX1 42 "QuotaLicences$Book" "size" "I" ∈ WL := wl_of (in_t1 (List.mem_of_getElem? (i := 166) rfl)) rfl
set_option maxRecDepth 20000 in
theorem qf_X7_70 : Cond.fieldLink RX7 70 "QuotaLicences$Book" "size" "I" ∈ WL := wl_of (in_t1 (List.mem_of_getElem? (i := 167) rfl)) rfl
set_option maxRecDepth 20000 in
theorem qf_X10_139 : Cond.fieldLink RX10 139 "QuotaLicences$Book" "size" "I" ∈ WL := wl_of (in_t1 (List.mem_of_getElem? (i := 168) rfl)) rfl
set_option maxRecDepth 20000 in
theorem ql_X7_25 : Cond.classLink RX7 25 RX3 ∈ WL := wl_of (in_t1 (List.mem_of_getElem? (i := 192) rfl)) rfl
set_option maxRecDepth 20000 in
theorem qb_X3 : Cond.instantiable RX3 7 ∈ WL := wl_of (in_t1 (List.mem_of_getElem? (i := 193) rfl)) rfl
set_option maxRecDepth 20000 in
theorem qi_X3_init : Cond.instanceMethod yX3_init ∈ WL := wl_of (in_t1 (List.mem_of_getElem? (i := 195) rfl)) rfl
set_option maxRecDepth 20000 in
theorem qc_X3_init : Cond.code yX3_init cX3_init 1 (none : Option FieldType) ∈ WL := wl_of (in_t1 (List.mem_of_getElem? (i := 196) rfl)) rfl
set_option maxRecDepth 20000 in
theorem qm_X3_3 : Cond.methodLink RX3 3 ⟨"java/lang/Object", "<init>", "()V"⟩ ∈ WL := wl_of (in_t1 (List.mem_of_getElem? (i := 197) rfl)) rfl
set_option maxRecDepth 20000 in
theorem qf_X3_9 : Cond.fieldLink RX3 9 "QuotaLicences$Period" "figures" "[I" ∈ WL := wl_of (in_t1 (List.mem_of_getElem? (i := 198) rfl)) rfl
set_option maxRecDepth 20000 in
theorem qf_X3_15 : Cond.fieldLink RX3 15 "QuotaLicences$Period" "sorts" "[I" ∈ WL := wl_of (in_t1 (List.mem_of_getElem? (i := 199) rfl)) rfl
set_option maxRecDepth 20000 in
theorem qf_X7_126 : Cond.fieldLink RX7 126 "QuotaLicences$Period" "sorts" "[I" ∈ WL := wl_of (in_t1 (List.mem_of_getElem? (i := 200) rfl)) rfl
set_option maxRecDepth 20000 in
theorem qf_X10_232 : Cond.fieldLink RX10 232 "QuotaLicences$Period" "sorts" "[I" ∈ WL := wl_of (in_t1 (List.mem_of_getElem? (i := 201) rfl)) rfl
set_option maxRecDepth 20000 in
theorem qf_X3_18 : Cond.fieldLink RX3 18 "QuotaLicences$Period" "shares" "[I" ∈ WL := wl_of (in_t1 (List.mem_of_getElem? (i := 202) rfl)) rfl
set_option maxRecDepth 20000 in
theorem qf_X7_142 : Cond.fieldLink RX7 142 "QuotaLicences$Period" "shares" "[I" ∈ WL := wl_of (in_t1 (List.mem_of_getElem? (i := 203) rfl)) rfl
set_option maxRecDepth 20000 in
theorem qf_X10_240 : Cond.fieldLink RX10 240 "QuotaLicences$Period" "shares" "[I" ∈ WL := wl_of (in_t1 (List.mem_of_getElem? (i := 204) rfl)) rfl
set_option maxRecDepth 20000 in
theorem qf_X3_21 : Cond.fieldLink RX3 21 "QuotaLicences$Period" "left" "[I" ∈ WL := wl_of (in_t1 (List.mem_of_getElem? (i := 205) rfl)) rfl
set_option maxRecDepth 20000 in
theorem qf_X7_145 : Cond.fieldLink RX7 145 "QuotaLicences$Period" "left" "[I" ∈ WL := wl_of (in_t1 (List.mem_of_getElem? (i := 206) rfl)) rfl
set_option maxRecDepth 20000 in
theorem qf_X10_168 : Cond.fieldLink RX10 168 "QuotaLicences$Period" "left" "[I" ∈ WL := wl_of (in_t1 (List.mem_of_getElem? (i := 207) rfl)) rfl
set_option maxRecDepth 20000 in
theorem qf_X3_24 : Cond.fieldLink RX3 24 "QuotaLicences$Period" "granted" "[I" ∈ WL := wl_of (in_t1 (List.mem_of_getElem? (i := 208) rfl)) rfl
set_option maxRecDepth 20000 in
theorem qf_X7_135 : Cond.fieldLink RX7 135 "QuotaLicences$Period" "granted" "[I" ∈ WL := wl_of (in_t1 (List.mem_of_getElem? (i := 209) rfl)) rfl
set_option maxRecDepth 20000 in
theorem qf_X10_287 : Cond.fieldLink RX10 287 "QuotaLicences$Period" "granted" "[I" ∈ WL := wl_of (in_t1 (List.mem_of_getElem? (i := 210) rfl)) rfl
set_option maxRecDepth 20000 in
theorem qf_X3_27 : Cond.fieldLink RX3 27 "QuotaLicences$Period" "log" "[I" ∈ WL := wl_of (in_t1 (List.mem_of_getElem? (i := 211) rfl)) rfl
set_option maxRecDepth 20000 in
theorem qf_X10_313 : Cond.fieldLink RX10 313 "QuotaLicences$Period" "log" "[I" ∈ WL := wl_of (in_t1 (List.mem_of_getElem? (i := 212) rfl)) rfl
set_option maxRecDepth 20000 in
theorem qf_X3_36 : Cond.fieldLink RX3 36 "QuotaLicences$Period" "logged" "I" ∈ WL := wl_of (in_t1 (List.mem_of_getElem? (i := 213) rfl)) rfl
set_option maxRecDepth 20000 in
theorem qf_X7_73 : Cond.fieldLink RX7 73 "QuotaLicences$Period" "logged" "I" ∈ WL := wl_of (in_t1 (List.mem_of_getElem? (i := 214) rfl)) rfl
set_option maxRecDepth 20000 in
theorem qf_X10_310 : Cond.fieldLink RX10 310 "QuotaLicences$Period" "logged" "I" ∈ WL := wl_of (in_t1 (List.mem_of_getElem? (i := 215) rfl)) rfl
set_option maxRecDepth 20000 in
theorem ql_X7_32 : Cond.classLink RX7 32 RX9 ∈ WL := wl_of (in_t1 (List.mem_of_getElem? (i := 231) rfl)) rfl
set_option maxRecDepth 20000 in
theorem qb_X9 : Cond.instantiable RX9 3 ∈ WL := wl_of (in_t1 (List.mem_of_getElem? (i := 232) rfl)) rfl
set_option maxRecDepth 20000 in
theorem qi_X9_init : Cond.instanceMethod yX9_init ∈ WL := wl_of (in_t1 (List.mem_of_getElem? (i := 234) rfl)) rfl
set_option maxRecDepth 20000 in
theorem qc_X9_init : Cond.code yX9_init cX9_init 1 (none : Option FieldType) ∈ WL := wl_of (in_t1 (List.mem_of_getElem? (i := 235) rfl)) rfl
set_option maxRecDepth 20000 in
theorem qm_X9_3 : Cond.methodLink RX9 3 ⟨"java/lang/Object", "<init>", "()V"⟩ ∈ WL := wl_of (in_t1 (List.mem_of_getElem? (i := 236) rfl)) rfl
set_option maxRecDepth 20000 in
theorem qf_X9_9 : Cond.fieldLink RX9 9 "QuotaLicences$Year" "imported" "[I" ∈ WL := wl_of (in_t1 (List.mem_of_getElem? (i := 237) rfl)) rfl
set_option maxRecDepth 20000 in
theorem qf_X7_161 : Cond.fieldLink RX7 161 "QuotaLicences$Year" "imported" "[I" ∈ WL := wl_of (in_t1 (List.mem_of_getElem? (i := 238) rfl)) rfl
set_option maxRecDepth 20000 in
theorem qf_X10_224 : Cond.fieldLink RX10 224 "QuotaLicences$Year" "imported" "[I" ∈ WL := wl_of (in_t1 (List.mem_of_getElem? (i := 239) rfl)) rfl
set_option maxRecDepth 20000 in
theorem qf_X9_15 : Cond.fieldLink RX9 15 "QuotaLicences$Year" "byImporter" "[I" ∈ WL := wl_of (in_t2 (List.mem_of_getElem? (i := 0) rfl)) rfl
set_option maxRecDepth 20000 in
theorem qf_X7_224 : Cond.fieldLink RX7 224 "QuotaLicences$Year" "byImporter" "[I" ∈ WL := wl_of (in_t2 (List.mem_of_getElem? (i := 1) rfl)) rfl
set_option maxRecDepth 20000 in
theorem qf_X10_261 : Cond.fieldLink RX10 261 "QuotaLicences$Year" "byImporter" "[I" ∈ WL := wl_of (in_t2 (List.mem_of_getElem? (i := 2) rfl)) rfl
set_option maxRecDepth 20000 in
theorem qf_X9_18 : Cond.fieldLink RX9 18 "QuotaLicences$Year" "byOrigin" "[I" ∈ WL := wl_of (in_t2 (List.mem_of_getElem? (i := 3) rfl)) rfl
set_option maxRecDepth 20000 in
theorem qf_X7_227 : Cond.fieldLink RX7 227 "QuotaLicences$Year" "byOrigin" "[I" ∈ WL := wl_of (in_t2 (List.mem_of_getElem? (i := 4) rfl)) rfl
set_option maxRecDepth 20000 in
theorem qf_X7_12 : Cond.fieldLink RX7 12 "QuotaLicences$State" "scheme" "LQuotaLicences$Scheme;" ∈ WL := wl_of (in_t2 (List.mem_of_getElem? (i := 12) rfl)) rfl
set_option maxRecDepth 20000 in
theorem qf_X10_81 : Cond.fieldLink RX10 81 "QuotaLicences$State" "scheme" "LQuotaLicences$Scheme;" ∈ WL := wl_of (in_t2 (List.mem_of_getElem? (i := 13) rfl)) rfl
set_option maxRecDepth 20000 in
theorem qf_X7_21 : Cond.fieldLink RX7 21 "QuotaLicences$State" "book" "LQuotaLicences$Book;" ∈ WL := wl_of (in_t2 (List.mem_of_getElem? (i := 14) rfl)) rfl
set_option maxRecDepth 20000 in
theorem qf_X10_106 : Cond.fieldLink RX10 106 "QuotaLicences$State" "book" "LQuotaLicences$Book;" ∈ WL := wl_of (in_t2 (List.mem_of_getElem? (i := 15) rfl)) rfl
set_option maxRecDepth 20000 in
theorem qf_X7_28 : Cond.fieldLink RX7 28 "QuotaLicences$State" "period" "LQuotaLicences$Period;" ∈ WL := wl_of (in_t2 (List.mem_of_getElem? (i := 16) rfl)) rfl
set_option maxRecDepth 20000 in
theorem qf_X10_156 : Cond.fieldLink RX10 156 "QuotaLicences$State" "period" "LQuotaLicences$Period;" ∈ WL := wl_of (in_t2 (List.mem_of_getElem? (i := 17) rfl)) rfl
set_option maxRecDepth 20000 in
theorem qf_X7_35 : Cond.fieldLink RX7 35 "QuotaLicences$State" "year" "LQuotaLicences$Year;" ∈ WL := wl_of (in_t2 (List.mem_of_getElem? (i := 18) rfl)) rfl
set_option maxRecDepth 20000 in
theorem qf_X10_220 : Cond.fieldLink RX10 220 "QuotaLicences$State" "year" "LQuotaLicences$Year;" ∈ WL := wl_of (in_t2 (List.mem_of_getElem? (i := 19) rfl)) rfl
set_option maxRecDepth 20000 in
theorem qf_X7_39 : Cond.fieldLink RX7 39 "QuotaLicences$State" "owes" "[D" ∈ WL := wl_of (in_t2 (List.mem_of_getElem? (i := 20) rfl)) rfl
set_option maxRecDepth 20000 in
theorem qf_X10_271 : Cond.fieldLink RX10 271 "QuotaLicences$State" "owes" "[D" ∈ WL := wl_of (in_t2 (List.mem_of_getElem? (i := 21) rfl)) rfl
set_option maxRecDepth 20000 in
theorem qf_X7_43 : Cond.fieldLink RX7 43 "QuotaLicences$State" "totals" "[I" ∈ WL := wl_of (in_t2 (List.mem_of_getElem? (i := 22) rfl)) rfl
set_option maxRecDepth 20000 in
theorem qf_X10_129 : Cond.fieldLink RX10 129 "QuotaLicences$State" "totals" "[I" ∈ WL := wl_of (in_t2 (List.mem_of_getElem? (i := 23) rfl)) rfl
set_option maxRecDepth 20000 in
theorem qf_X7_66 : Cond.fieldLink RX7 66 "QuotaLicences$State" "day" "I" ∈ WL := wl_of (in_t2 (List.mem_of_getElem? (i := 24) rfl)) rfl
set_option maxRecDepth 20000 in
theorem qf_X10_142 : Cond.fieldLink RX10 142 "QuotaLicences$State" "day" "I" ∈ WL := wl_of (in_t2 (List.mem_of_getElem? (i := 25) rfl)) rfl
set_option maxRecDepth 20000 in
theorem qa_double : Cond.arrayClass FieldType.double ∈ WL := wl_of (in_t2 (List.mem_of_getElem? (i := 41) rfl)) rfl
set_option maxRecDepth 20000 in
theorem ql_X10_30 : Cond.classLink RX10 30 RX0 ∈ WL := wl_of (in_t2 (List.mem_of_getElem? (i := 42) rfl)) rfl
set_option maxRecDepth 20000 in
theorem qb_X0 : Cond.instantiable RX0 3 ∈ WL := wl_of (in_t2 (List.mem_of_getElem? (i := 43) rfl)) rfl
set_option maxRecDepth 20000 in
theorem qi_X0_init : Cond.instanceMethod yX0_init ∈ WL := wl_of (in_t2 (List.mem_of_getElem? (i := 45) rfl)) rfl
set_option maxRecDepth 20000 in
theorem qc_X0_init : Cond.code yX0_init cX0_init 1 (none : Option FieldType) ∈ WL := wl_of (in_t2 (List.mem_of_getElem? (i := 46) rfl)) rfl
set_option maxRecDepth 20000 in
theorem qm_X0_3 : Cond.methodLink RX0 3 ⟨"java/lang/Object", "<init>", "()V"⟩ ∈ WL := wl_of (in_t2 (List.mem_of_getElem? (i := 47) rfl)) rfl
set_option maxRecDepth 20000 in
theorem ql_X0_9 : Cond.classLink RX0 9 RX7 ∈ WL := wl_of (in_t2 (List.mem_of_getElem? (i := 48) rfl)) rfl
set_option maxRecDepth 20000 in
theorem qf_X0_11 : Cond.fieldLink RX0 11 "QuotaLicences$Acts" "states" "[LQuotaLicences$State;" ∈ WL := wl_of (in_t2 (List.mem_of_getElem? (i := 50) rfl)) rfl
set_option maxRecDepth 20000 in
theorem qf_X0_17 : Cond.fieldLink RX0 17 "QuotaLicences$Acts" "top" "I" ∈ WL := wl_of (in_t2 (List.mem_of_getElem? (i := 51) rfl)) rfl
set_option maxRecDepth 20000 in
theorem qf_X0_26 : Cond.fieldLink RX0 26 "QuotaLicences$Acts" "many" "I" ∈ WL := wl_of (in_t2 (List.mem_of_getElem? (i := 52) rfl)) rfl
set_option maxRecDepth 20000 in
theorem qf_X10_393 : Cond.fieldLink RX10 393 "QuotaLicences$Acts" "many" "I" ∈ WL := wl_of (in_t2 (List.mem_of_getElem? (i := 53) rfl)) rfl
set_option maxRecDepth 20000 in
theorem ql_X10_41 : Cond.classLink RX10 41 RX2 ∈ WL := wl_of (in_t2 (List.mem_of_getElem? (i := 61) rfl)) rfl
set_option maxRecDepth 20000 in
theorem qb_X2 : Cond.instantiable RX2 3 ∈ WL := wl_of (in_t2 (List.mem_of_getElem? (i := 62) rfl)) rfl
set_option maxRecDepth 20000 in
theorem qi_X2_init : Cond.instanceMethod yX2_init ∈ WL := wl_of (in_t2 (List.mem_of_getElem? (i := 64) rfl)) rfl
set_option maxRecDepth 20000 in
theorem qc_X2_init : Cond.code yX2_init cX2_init 1 (none : Option FieldType) ∈ WL := wl_of (in_t2 (List.mem_of_getElem? (i := 65) rfl)) rfl
set_option maxRecDepth 20000 in
theorem qm_X2_3 : Cond.methodLink RX2 3 ⟨"java/lang/Object", "<init>", "()V"⟩ ∈ WL := wl_of (in_t2 (List.mem_of_getElem? (i := 66) rfl)) rfl
set_option maxRecDepth 20000 in
theorem qf_X2_9 : Cond.fieldLink RX2 9 "QuotaLicences$Notes" "places" "[J" ∈ WL := wl_of (in_t2 (List.mem_of_getElem? (i := 67) rfl)) rfl
set_option maxRecDepth 20000 in
theorem qf_X2_15 : Cond.fieldLink RX2 15 "QuotaLicences$Notes" "kind" "I" ∈ WL := wl_of (in_t2 (List.mem_of_getElem? (i := 68) rfl)) rfl
set_option maxRecDepth 20000 in
theorem qf_X2_19 : Cond.fieldLink RX2 19 "QuotaLicences$Notes" "length" "I" ∈ WL := wl_of (in_t2 (List.mem_of_getElem? (i := 69) rfl)) rfl
set_option maxRecDepth 20000 in
theorem qf_X10_396 : Cond.fieldLink RX10 396 "QuotaLicences$Notes" "length" "I" ∈ WL := wl_of (in_t2 (List.mem_of_getElem? (i := 70) rfl)) rfl
set_option maxRecDepth 20000 in
theorem qa_long : Cond.arrayClass FieldType.long ∈ WL := wl_of (in_t2 (List.mem_of_getElem? (i := 78) rfl)) rfl
set_option maxRecDepth 20000 in
theorem qf_X10_10 : Cond.fieldLink RX10 10 "QuotaLicences" "reader" "LQuotaLicences$Reader;" ∈ WL := wl_of (in_t2 (List.mem_of_getElem? (i := 79) rfl)) rfl
set_option maxRecDepth 20000 in
theorem qf_X10_19 : Cond.fieldLink RX10 19 "QuotaLicences" "spelling" "LQuotaLicences$Spelling;" ∈ WL := wl_of (in_t2 (List.mem_of_getElem? (i := 80) rfl)) rfl
set_option maxRecDepth 20000 in
theorem qf_X10_26 : Cond.fieldLink RX10 26 "QuotaLicences" "now" "LQuotaLicences$State;" ∈ WL := wl_of (in_t2 (List.mem_of_getElem? (i := 81) rfl)) rfl
set_option maxRecDepth 20000 in
theorem qf_X10_33 : Cond.fieldLink RX10 33 "QuotaLicences" "acts" "LQuotaLicences$Acts;" ∈ WL := wl_of (in_t2 (List.mem_of_getElem? (i := 82) rfl)) rfl
set_option maxRecDepth 20000 in
theorem qf_X10_37 : Cond.fieldLink RX10 37 "QuotaLicences" "shelves" "[LQuotaLicences$State;" ∈ WL := wl_of (in_t2 (List.mem_of_getElem? (i := 83) rfl)) rfl
set_option maxRecDepth 20000 in
theorem qf_X10_44 : Cond.fieldLink RX10 44 "QuotaLicences" "notes" "LQuotaLicences$Notes;" ∈ WL := wl_of (in_t2 (List.mem_of_getElem? (i := 84) rfl)) rfl
set_option maxRecDepth 20000 in
theorem qm_L_13 : Cond.methodLink RL 13 yX10_feed ∈ WL := wl_of (in_t2 (List.mem_of_getElem? (i := 98) rfl)) rfl
set_option maxRecDepth 20000 in
theorem qi_X10_feed : Cond.instanceMethod yX10_feed ∈ WL := wl_of (in_t2 (List.mem_of_getElem? (i := 99) rfl)) rfl
set_option maxRecDepth 20000 in
theorem qs_X10_feed : Cond.selects RX10 yX10_feed yX10_feed ∈ WL := wl_of (in_t2 (List.mem_of_getElem? (i := 100) rfl)) rfl
set_option maxRecDepth 20000 in
theorem qc_X10_feed : Cond.code yX10_feed cX10_feed 6 (some FieldType.int) ∈ WL := wl_of (in_t2 (List.mem_of_getElem? (i := 101) rfl)) rfl
set_option maxRecDepth 20000 in
theorem qm_X10_52 : Cond.methodLink RX10 52 yX8_takeIn ∈ WL := wl_of (in_t2 (List.mem_of_getElem? (i := 102) rfl)) rfl
set_option maxRecDepth 20000 in
theorem qi_X8_takeIn : Cond.instanceMethod yX8_takeIn ∈ WL := wl_of (in_t2 (List.mem_of_getElem? (i := 103) rfl)) rfl
set_option maxRecDepth 20000 in
theorem qs_X8_takeIn : Cond.selects RX8 yX8_takeIn yX8_takeIn ∈ WL := wl_of (in_t2 (List.mem_of_getElem? (i := 104) rfl)) rfl
set_option maxRecDepth 20000 in
theorem qc_X8_takeIn : Cond.code yX8_takeIn cX8_takeIn 6 (some FieldType.int) ∈ WL := wl_of (in_t2 (List.mem_of_getElem? (i := 105) rfl)) rfl
set_option maxRecDepth 20000 in
theorem qm_X8_19 : Cond.methodLink RX8 19 yX8_takeFour ∈ WL := wl_of (in_t2 (List.mem_of_getElem? (i := 106) rfl)) rfl
set_option maxRecDepth 20000 in
theorem qi_X8_takeFour : Cond.instanceMethod yX8_takeFour ∈ WL := wl_of (in_t2 (List.mem_of_getElem? (i := 108) rfl)) rfl
set_option maxRecDepth 20000 in
theorem qc_X8_takeFour : Cond.code yX8_takeFour cX8_takeFour 3 (none : Option FieldType) ∈ WL := wl_of (in_t2 (List.mem_of_getElem? (i := 109) rfl)) rfl
set_option maxRecDepth 20000 in
theorem qm_L_18 : Cond.methodLink RL 18 yX10_end ∈ WL := wl_of (in_t2 (List.mem_of_getElem? (i := 110) rfl)) rfl
set_option maxRecDepth 20000 in
theorem qi_X10_end : Cond.instanceMethod yX10_end ∈ WL := wl_of (in_t2 (List.mem_of_getElem? (i := 111) rfl)) rfl
set_option maxRecDepth 20000 in
theorem qs_X10_end : Cond.selects RX10 yX10_end yX10_end ∈ WL := wl_of (in_t2 (List.mem_of_getElem? (i := 112) rfl)) rfl
set_option maxRecDepth 20000 in
theorem qc_X10_end : Cond.code yX10_end cX10_end 2 (some FieldType.int) ∈ WL := wl_of (in_t2 (List.mem_of_getElem? (i := 113) rfl)) rfl
set_option maxRecDepth 20000 in
theorem qm_X10_58 : Cond.methodLink RX10 58 yX8_cutTo ∈ WL := wl_of (in_t2 (List.mem_of_getElem? (i := 114) rfl)) rfl
set_option maxRecDepth 20000 in
theorem qi_X8_cutTo : Cond.instanceMethod yX8_cutTo ∈ WL := wl_of (in_t2 (List.mem_of_getElem? (i := 115) rfl)) rfl
set_option maxRecDepth 20000 in
theorem qs_X8_cutTo : Cond.selects RX8 yX8_cutTo yX8_cutTo ∈ WL := wl_of (in_t2 (List.mem_of_getElem? (i := 116) rfl)) rfl
set_option maxRecDepth 20000 in
theorem qc_X8_cutTo : Cond.code yX8_cutTo cX8_cutTo 2 (some FieldType.int) ∈ WL := wl_of (in_t2 (List.mem_of_getElem? (i := 117) rfl)) rfl
set_option maxRecDepth 20000 in
theorem qm_L_23 : Cond.methodLink RL 23 yX10_tell ∈ WL := wl_of (in_t2 (List.mem_of_getElem? (i := 118) rfl)) rfl
set_option maxRecDepth 20000 in
theorem qi_X10_tell : Cond.instanceMethod yX10_tell ∈ WL := wl_of (in_t2 (List.mem_of_getElem? (i := 119) rfl)) rfl
set_option maxRecDepth 20000 in
theorem qs_X10_tell : Cond.selects RX10 yX10_tell yX10_tell ∈ WL := wl_of (in_t2 (List.mem_of_getElem? (i := 120) rfl)) rfl
set_option maxRecDepth 20000 in
theorem qc_X10_tell : Cond.code yX10_tell cX10_tell 2 (some FieldType.int) ∈ WL := wl_of (in_t2 (List.mem_of_getElem? (i := 121) rfl)) rfl
set_option maxRecDepth 20000 in
theorem qm_X10_62 : Cond.methodLink RX10 62 yX4_readText ∈ WL := wl_of (in_t2 (List.mem_of_getElem? (i := 122) rfl)) rfl
set_option maxRecDepth 20000 in
theorem qi_X4_readText : Cond.instanceMethod yX4_readText ∈ WL := wl_of (in_t2 (List.mem_of_getElem? (i := 123) rfl)) rfl
set_option maxRecDepth 20000 in
theorem qs_X4_readText : Cond.selects RX4 yX4_readText yX4_readText ∈ WL := wl_of (in_t2 (List.mem_of_getElem? (i := 124) rfl)) rfl
set_option maxRecDepth 20000 in
theorem qc_X4_readText : Cond.code yX4_readText cX4_readText 2 (some FieldType.int) ∈ WL := wl_of (in_t2 (List.mem_of_getElem? (i := 125) rfl)) rfl
set_option maxRecDepth 20000 in
theorem qm_X4_32 : Cond.methodLink RX4 32 yX5_clear ∈ WL := wl_of (in_t2 (List.mem_of_getElem? (i := 126) rfl)) rfl
set_option maxRecDepth 20000 in
theorem qi_X5_clear : Cond.instanceMethod yX5_clear ∈ WL := wl_of (in_t2 (List.mem_of_getElem? (i := 127) rfl)) rfl
set_option maxRecDepth 20000 in
theorem qs_X5_clear : Cond.selects RX5 yX5_clear yX5_clear ∈ WL := wl_of (in_t2 (List.mem_of_getElem? (i := 128) rfl)) rfl
set_option maxRecDepth 20000 in
theorem qc_X5_clear : Cond.code yX5_clear cX5_clear 1 (none : Option FieldType) ∈ WL := wl_of (in_t2 (List.mem_of_getElem? (i := 129) rfl)) rfl
set_option maxRecDepth 20000 in
theorem qm_X5_21 : Cond.methodLink RX5 21 yJ7_fill_53178 ∈ WL := wl_of (in_t2 (List.mem_of_getElem? (i := 130) rfl)) rfl
set_option maxRecDepth 20000 in
theorem qt_J7_fill_53178 : Cond.static yJ7_fill_53178 ∈ WL := wl_of (in_t2 (List.mem_of_getElem? (i := 131) rfl)) rfl
set_option maxRecDepth 20000 in
theorem qc_J7_fill_53178 : Cond.code yJ7_fill_53178 cJ7_fill_53178 4 (none : Option FieldType) ∈ WL := wl_of (in_t2 (List.mem_of_getElem? (i := 132) rfl)) rfl
set_option maxRecDepth 20000 in
theorem qm_X4_35 : Cond.methodLink RX4 35 yX4_readTerms ∈ WL := wl_of (in_t2 (List.mem_of_getElem? (i := 133) rfl)) rfl
set_option maxRecDepth 20000 in
theorem qi_X4_readTerms : Cond.instanceMethod yX4_readTerms ∈ WL := wl_of (in_t2 (List.mem_of_getElem? (i := 135) rfl)) rfl
set_option maxRecDepth 20000 in
theorem qc_X4_readTerms : Cond.code yX4_readTerms cX4_readTerms 3 (none : Option FieldType) ∈ WL := wl_of (in_t2 (List.mem_of_getElem? (i := 136) rfl)) rfl
set_option maxRecDepth 20000 in
theorem qm_X4_58 : Cond.methodLink RX4 58 yX4_skipBlanks ∈ WL := wl_of (in_t2 (List.mem_of_getElem? (i := 137) rfl)) rfl
set_option maxRecDepth 20000 in
theorem qi_X4_skipBlanks : Cond.instanceMethod yX4_skipBlanks ∈ WL := wl_of (in_t2 (List.mem_of_getElem? (i := 139) rfl)) rfl
set_option maxRecDepth 20000 in
theorem qc_X4_skipBlanks : Cond.code yX4_skipBlanks cX4_skipBlanks 1 (none : Option FieldType) ∈ WL := wl_of (in_t2 (List.mem_of_getElem? (i := 140) rfl)) rfl
set_option maxRecDepth 20000 in
theorem qm_X4_61 : Cond.methodLink RX4 61 yX4_skipLetters ∈ WL := wl_of (in_t2 (List.mem_of_getElem? (i := 141) rfl)) rfl
set_option maxRecDepth 20000 in
theorem qi_X4_skipLetters : Cond.instanceMethod yX4_skipLetters ∈ WL := wl_of (in_t2 (List.mem_of_getElem? (i := 143) rfl)) rfl
set_option maxRecDepth 20000 in
theorem qc_X4_skipLetters : Cond.code yX4_skipLetters cX4_skipLetters 1 (none : Option FieldType) ∈ WL := wl_of (in_t2 (List.mem_of_getElem? (i := 144) rfl)) rfl
set_option maxRecDepth 20000 in
theorem qm_X4_65 : Cond.methodLink RX4 65 yX4_isWord ∈ WL := wl_of (in_t2 (List.mem_of_getElem? (i := 146) rfl)) rfl
set_option maxRecDepth 20000 in
theorem qi_X4_isWord : Cond.instanceMethod yX4_isWord ∈ WL := wl_of (in_t2 (List.mem_of_getElem? (i := 148) rfl)) rfl
set_option maxRecDepth 20000 in
theorem qc_X4_isWord : Cond.code yX4_isWord cX4_isWord 4 (some FieldType.boolean) ∈ WL := wl_of (in_t2 (List.mem_of_getElem? (i := 149) rfl)) rfl
set_option maxRecDepth 20000 in
theorem qm_X4_123 : Cond.methodLink RX4 123 yJ0_length_8abf5 ∈ WL := wl_of (in_t2 (List.mem_of_getElem? (i := 150) rfl)) rfl
set_option maxRecDepth 20000 in
theorem qi_J0_length_8abf5 : Cond.instanceMethod yJ0_length_8abf5 ∈ WL := wl_of (in_t2 (List.mem_of_getElem? (i := 151) rfl)) rfl
set_option maxRecDepth 20000 in
theorem qs_J0_length_8abf5 : Cond.selects RJ0 yJ0_length_8abf5 yJ0_length_8abf5 ∈ WL := wl_of (in_t2 (List.mem_of_getElem? (i := 152) rfl)) rfl
set_option maxRecDepth 20000 in
theorem qc_J0_length_8abf5 : Cond.code yJ0_length_8abf5 cJ0_length_8abf5 1 (some FieldType.int) ∈ WL := wl_of (in_t2 (List.mem_of_getElem? (i := 153) rfl)) rfl
set_option maxRecDepth 20000 in
theorem qm_J0_335 : Cond.methodLink RJ0 335 yJ0_coder_7d493 ∈ WL := wl_of (in_t2 (List.mem_of_getElem? (i := 154) rfl)) rfl
set_option maxRecDepth 20000 in
theorem qi_J0_coder_7d493 : Cond.instanceMethod yJ0_coder_7d493 ∈ WL := wl_of (in_t2 (List.mem_of_getElem? (i := 155) rfl)) rfl
set_option maxRecDepth 20000 in
theorem qs_J0_coder_7d493 : Cond.selects RJ0 yJ0_coder_7d493 yJ0_coder_7d493 ∈ WL := wl_of (in_t2 (List.mem_of_getElem? (i := 156) rfl)) rfl
set_option maxRecDepth 20000 in
theorem qc_J0_coder_7d493 : Cond.code yJ0_coder_7d493 cJ0_coder_7d493 1 (some FieldType.byte) ∈ WL := wl_of (in_t2 (List.mem_of_getElem? (i := 157) rfl)) rfl
set_option maxRecDepth 20000 in
theorem qf_J0_38 : Cond.fieldLink RJ0 38 "java/lang/String" "COMPACT_STRINGS" "Z" ∈ WL := wl_of (in_t2 (List.mem_of_getElem? (i := 158) rfl)) rfl
set_option maxRecDepth 20000 in
theorem qm_X4_128 : Cond.methodLink RX4 128 yJ0_charAt_5068e ∈ WL := wl_of (in_t2 (List.mem_of_getElem? (i := 160) rfl)) rfl
set_option maxRecDepth 20000 in
theorem qi_J0_charAt_5068e : Cond.instanceMethod yJ0_charAt_5068e ∈ WL := wl_of (in_t2 (List.mem_of_getElem? (i := 161) rfl)) rfl
set_option maxRecDepth 20000 in
theorem qs_J0_charAt_5068e : Cond.selects RJ0 yJ0_charAt_5068e yJ0_charAt_5068e ∈ WL := wl_of (in_t2 (List.mem_of_getElem? (i := 162) rfl)) rfl
set_option maxRecDepth 20000 in
theorem qc_J0_charAt_5068e : Cond.code yJ0_charAt_5068e cJ0_charAt_5068e 2 (some FieldType.char) ∈ WL := wl_of (in_t2 (List.mem_of_getElem? (i := 163) rfl)) rfl
set_option maxRecDepth 20000 in
theorem qm_J0_492 : Cond.methodLink RJ0 492 yJ0_isLatin1_aae02 ∈ WL := wl_of (in_t2 (List.mem_of_getElem? (i := 164) rfl)) rfl
set_option maxRecDepth 20000 in
theorem qi_J0_isLatin1_aae02 : Cond.instanceMethod yJ0_isLatin1_aae02 ∈ WL := wl_of (in_t2 (List.mem_of_getElem? (i := 165) rfl)) rfl
set_option maxRecDepth 20000 in
theorem qs_J0_isLatin1_aae02 : Cond.selects RJ0 yJ0_isLatin1_aae02 yJ0_isLatin1_aae02 ∈ WL := wl_of (in_t2 (List.mem_of_getElem? (i := 166) rfl)) rfl
set_option maxRecDepth 20000 in
theorem qc_J0_isLatin1_aae02 : Cond.code yJ0_isLatin1_aae02 cJ0_isLatin1_aae02 1 (some FieldType.boolean) ∈ WL := wl_of (in_t2 (List.mem_of_getElem? (i := 167) rfl)) rfl
set_option maxRecDepth 20000 in
theorem qm_J0_495 : Cond.methodLink RJ0 495 yJ1_charAt_3b067 ∈ WL := wl_of (in_t2 (List.mem_of_getElem? (i := 168) rfl)) rfl
set_option maxRecDepth 20000 in
theorem qt_J1_charAt_3b067 : Cond.static yJ1_charAt_3b067 ∈ WL := wl_of (in_t2 (List.mem_of_getElem? (i := 169) rfl)) rfl
set_option maxRecDepth 20000 in
theorem qc_J1_charAt_3b067 : Cond.code yJ1_charAt_3b067 cJ1_charAt_3b067 2 (some FieldType.char) ∈ WL := wl_of (in_t2 (List.mem_of_getElem? (i := 170) rfl)) rfl
set_option maxRecDepth 20000 in
theorem qm_J1_9 : Cond.methodLink RJ1 9 yJ0_checkIndex_df160 ∈ WL := wl_of (in_t2 (List.mem_of_getElem? (i := 171) rfl)) rfl
set_option maxRecDepth 20000 in
theorem qt_J0_checkIndex_df160 : Cond.static yJ0_checkIndex_df160 ∈ WL := wl_of (in_t2 (List.mem_of_getElem? (i := 172) rfl)) rfl
set_option maxRecDepth 20000 in
theorem qc_J0_checkIndex_df160 : Cond.code yJ0_checkIndex_df160 cJ0_checkIndex_df160 2 (none : Option FieldType) ∈ WL := wl_of (in_t2 (List.mem_of_getElem? (i := 173) rfl)) rfl
set_option maxRecDepth 20000 in
theorem qf_J0_1053 : Cond.fieldLink RJ0 1053 "jdk/internal/util/Preconditions" "SIOOBE_FORMATTER" "Ljava/util/function/BiFunction;" ∈ WL := wl_of (in_t2 (List.mem_of_getElem? (i := 174) rfl)) rfl
set_option maxRecDepth 20000 in
theorem qm_J0_1059 : Cond.methodLink RJ0 1059 yJ3_checkIndex_8e157 ∈ WL := wl_of (in_t2 (List.mem_of_getElem? (i := 176) rfl)) rfl
set_option maxRecDepth 20000 in
theorem qt_J3_checkIndex_8e157 : Cond.static yJ3_checkIndex_8e157 ∈ WL := wl_of (in_t2 (List.mem_of_getElem? (i := 177) rfl)) rfl
set_option maxRecDepth 20000 in
theorem qc_J3_checkIndex_8e157 : Cond.code yJ3_checkIndex_8e157 cJ3_checkIndex_8e157 3 (some FieldType.int) ∈ WL := wl_of (in_t2 (List.mem_of_getElem? (i := 178) rfl)) rfl
set_option maxRecDepth 20000 in
theorem qm_J0_498 : Cond.methodLink RJ0 498 yJ2_charAt_3b067 ∈ WL := wl_of (in_t2 (List.mem_of_getElem? (i := 179) rfl)) rfl
set_option maxRecDepth 20000 in
theorem qt_J2_charAt_3b067 : Cond.static yJ2_charAt_3b067 ∈ WL := wl_of (in_t2 (List.mem_of_getElem? (i := 180) rfl)) rfl
set_option maxRecDepth 20000 in
theorem qc_J2_charAt_3b067 : Cond.code yJ2_charAt_3b067 cJ2_charAt_3b067 2 (some FieldType.char) ∈ WL := wl_of (in_t2 (List.mem_of_getElem? (i := 181) rfl)) rfl
set_option maxRecDepth 20000 in
theorem qm_J2_67 : Cond.methodLink RJ2 67 yJ2_checkIndex_2214a ∈ WL := wl_of (in_t2 (List.mem_of_getElem? (i := 182) rfl)) rfl
set_option maxRecDepth 20000 in
theorem qt_J2_checkIndex_2214a : Cond.static yJ2_checkIndex_2214a ∈ WL := wl_of (in_t2 (List.mem_of_getElem? (i := 183) rfl)) rfl
set_option maxRecDepth 20000 in
theorem qc_J2_checkIndex_2214a : Cond.code yJ2_checkIndex_2214a cJ2_checkIndex_2214a 2 (none : Option FieldType) ∈ WL := wl_of (in_t2 (List.mem_of_getElem? (i := 184) rfl)) rfl
set_option maxRecDepth 20000 in
theorem qm_J2_48 : Cond.methodLink RJ2 48 yJ2_length_9d52b ∈ WL := wl_of (in_t2 (List.mem_of_getElem? (i := 185) rfl)) rfl
set_option maxRecDepth 20000 in
theorem qt_J2_length_9d52b : Cond.static yJ2_length_9d52b ∈ WL := wl_of (in_t2 (List.mem_of_getElem? (i := 186) rfl)) rfl
set_option maxRecDepth 20000 in
theorem qc_J2_length_9d52b : Cond.code yJ2_length_9d52b cJ2_length_9d52b 1 (some FieldType.int) ∈ WL := wl_of (in_t2 (List.mem_of_getElem? (i := 187) rfl)) rfl
set_option maxRecDepth 20000 in
theorem qm_J2_414 : Cond.methodLink RJ2 414 yJ0_checkIndex_df160 ∈ WL := wl_of (in_t2 (List.mem_of_getElem? (i := 188) rfl)) rfl
set_option maxRecDepth 20000 in
theorem qm_J2_71 : Cond.methodLink RJ2 71 yJ2_getChar_3b067 ∈ WL := wl_of (in_t2 (List.mem_of_getElem? (i := 189) rfl)) rfl
set_option maxRecDepth 20000 in
theorem qt_J2_getChar_3b067 : Cond.static yJ2_getChar_3b067 ∈ WL := wl_of (in_t2 (List.mem_of_getElem? (i := 190) rfl)) rfl
set_option maxRecDepth 20000 in
theorem qc_J2_getChar_3b067 : Cond.code yJ2_getChar_3b067 cJ2_getChar_3b067 2 (some FieldType.char) ∈ WL := wl_of (in_t2 (List.mem_of_getElem? (i := 191) rfl)) rfl
set_option maxRecDepth 20000 in
theorem qf_J2_44 : Cond.fieldLink RJ2 44 "java/lang/StringUTF16" "$assertionsDisabled" "Z" ∈ WL := wl_of (in_t2 (List.mem_of_getElem? (i := 192) rfl)) rfl
set_option maxRecDepth 20000 in
theorem qf_J2_59 : Cond.fieldLink RJ2 59 "java/lang/StringUTF16" "HI_BYTE_SHIFT" "I" ∈ WL := wl_of (in_t2 (List.mem_of_getElem? (i := 194) rfl)) rfl
set_option maxRecDepth 20000 in
theorem qf_J2_63 : Cond.fieldLink RJ2 63 "java/lang/StringUTF16" "LO_BYTE_SHIFT" "I" ∈ WL := wl_of (in_t2 (List.mem_of_getElem? (i := 196) rfl)) rfl
set_option maxRecDepth 20000 in
theorem qm_X4_54 : Cond.methodLink RX4 54 yX4_fail ∈ WL := wl_of (in_t2 (List.mem_of_getElem? (i := 198) rfl)) rfl
set_option maxRecDepth 20000 in
theorem qi_X4_fail : Cond.instanceMethod yX4_fail ∈ WL := wl_of (in_t2 (List.mem_of_getElem? (i := 200) rfl)) rfl
set_option maxRecDepth 20000 in
theorem qc_X4_fail : Cond.code yX4_fail cX4_fail 3 (none : Option FieldType) ∈ WL := wl_of (in_t2 (List.mem_of_getElem? (i := 201) rfl)) rfl
set_option maxRecDepth 20000 in
theorem qm_X4_79 : Cond.methodLink RX4 79 yX4_readNumber ∈ WL := wl_of (in_t2 (List.mem_of_getElem? (i := 206) rfl)) rfl
set_option maxRecDepth 20000 in
theorem qi_X4_readNumber : Cond.instanceMethod yX4_readNumber ∈ WL := wl_of (in_t2 (List.mem_of_getElem? (i := 208) rfl)) rfl
set_option maxRecDepth 20000 in
theorem qc_X4_readNumber : Cond.code yX4_readNumber cX4_readNumber 5 (some FieldType.int) ∈ WL := wl_of (in_t2 (List.mem_of_getElem? (i := 209) rfl)) rfl
set_option maxRecDepth 20000 in
theorem qk_X4_117 : Cond.constant RX4 117 (100000) ∈ WL := wl_of (in_t2 (List.mem_of_getElem? (i := 210) rfl)) rfl
set_option maxRecDepth 20000 in
theorem qm_X4_118 : Cond.methodLink RX4 118 yJ9_min_7cf53 ∈ WL := wl_of (in_t2 (List.mem_of_getElem? (i := 211) rfl)) rfl
set_option maxRecDepth 20000 in
theorem qt_J9_min_7cf53 : Cond.static yJ9_min_7cf53 ∈ WL := wl_of (in_t2 (List.mem_of_getElem? (i := 212) rfl)) rfl
set_option maxRecDepth 20000 in
theorem qc_J9_min_7cf53 : Cond.code yJ9_min_7cf53 cJ9_min_7cf53 2 (some FieldType.int) ∈ WL := wl_of (in_t2 (List.mem_of_getElem? (i := 213) rfl)) rfl
set_option maxRecDepth 20000 in
theorem qm_X4_38 : Cond.methodLink RX4 38 yX4_isAtEnd ∈ WL := wl_of (in_t2 (List.mem_of_getElem? (i := 214) rfl)) rfl
set_option maxRecDepth 20000 in
theorem qi_X4_isAtEnd : Cond.instanceMethod yX4_isAtEnd ∈ WL := wl_of (in_t2 (List.mem_of_getElem? (i := 216) rfl)) rfl
set_option maxRecDepth 20000 in
theorem qc_X4_isAtEnd : Cond.code yX4_isAtEnd cX4_isAtEnd 1 (some FieldType.boolean) ∈ WL := wl_of (in_t2 (List.mem_of_getElem? (i := 217) rfl)) rfl
set_option maxRecDepth 20000 in
theorem qm_X4_42 : Cond.methodLink RX4 42 yX4_readSeparator ∈ WL := wl_of (in_t2 (List.mem_of_getElem? (i := 218) rfl)) rfl
set_option maxRecDepth 20000 in
theorem qi_X4_readSeparator : Cond.instanceMethod yX4_readSeparator ∈ WL := wl_of (in_t2 (List.mem_of_getElem? (i := 220) rfl)) rfl
set_option maxRecDepth 20000 in
theorem qc_X4_readSeparator : Cond.code yX4_readSeparator cX4_readSeparator 1 (none : Option FieldType) ∈ WL := wl_of (in_t2 (List.mem_of_getElem? (i := 221) rfl)) rfl
set_option maxRecDepth 20000 in
theorem qm_X4_45 : Cond.methodLink RX4 45 yX4_readPiece ∈ WL := wl_of (in_t2 (List.mem_of_getElem? (i := 222) rfl)) rfl
set_option maxRecDepth 20000 in
theorem qi_X4_readPiece : Cond.instanceMethod yX4_readPiece ∈ WL := wl_of (in_t2 (List.mem_of_getElem? (i := 224) rfl)) rfl
set_option maxRecDepth 20000 in
theorem qc_X4_readPiece : Cond.code yX4_readPiece cX4_readPiece 2 (none : Option FieldType) ∈ WL := wl_of (in_t2 (List.mem_of_getElem? (i := 225) rfl)) rfl
set_option maxRecDepth 20000 in
theorem qm_X4_89 : Cond.methodLink RX4 89 yX4_readOrigin ∈ WL := wl_of (in_t2 (List.mem_of_getElem? (i := 227) rfl)) rfl
set_option maxRecDepth 20000 in
theorem qi_X4_readOrigin : Cond.instanceMethod yX4_readOrigin ∈ WL := wl_of (in_t2 (List.mem_of_getElem? (i := 229) rfl)) rfl
set_option maxRecDepth 20000 in
theorem qc_X4_readOrigin : Cond.code yX4_readOrigin cX4_readOrigin 2 (none : Option FieldType) ∈ WL := wl_of (in_t2 (List.mem_of_getElem? (i := 230) rfl)) rfl
set_option maxRecDepth 20000 in
theorem qk_X4_106 : Cond.constant RX4 106 (99999) ∈ WL := wl_of (in_t2 (List.mem_of_getElem? (i := 231) rfl)) rfl
set_option maxRecDepth 20000 in
theorem qm_X4_95 : Cond.methodLink RX4 95 yX4_readImporter ∈ WL := wl_of (in_t2 (List.mem_of_getElem? (i := 233) rfl)) rfl
set_option maxRecDepth 20000 in
theorem qi_X4_readImporter : Cond.instanceMethod yX4_readImporter ∈ WL := wl_of (in_t2 (List.mem_of_getElem? (i := 235) rfl)) rfl
set_option maxRecDepth 20000 in
theorem qc_X4_readImporter : Cond.code yX4_readImporter cX4_readImporter 2 (none : Option FieldType) ∈ WL := wl_of (in_t2 (List.mem_of_getElem? (i := 236) rfl)) rfl
set_option maxRecDepth 20000 in
theorem qm_X4_100 : Cond.methodLink RX4 100 yX4_readPast ∈ WL := wl_of (in_t2 (List.mem_of_getElem? (i := 238) rfl)) rfl
set_option maxRecDepth 20000 in
theorem qi_X4_readPast : Cond.instanceMethod yX4_readPast ∈ WL := wl_of (in_t3 (List.mem_of_getElem? (i := 0) rfl)) rfl
set_option maxRecDepth 20000 in
theorem qc_X4_readPast : Cond.code yX4_readPast cX4_readPast 7 (none : Option FieldType) ∈ WL := wl_of (in_t3 (List.mem_of_getElem? (i := 1) rfl)) rfl
set_option maxRecDepth 20000 in
theorem qt_X10_pairOf : Cond.static yX10_pairOf ∈ WL := wl_of (in_t3 (List.mem_of_getElem? (i := 3) rfl)) rfl
set_option maxRecDepth 20000 in
theorem qc_X10_pairOf : Cond.code yX10_pairOf cX10_pairOf 2 (some FieldType.int) ∈ WL := wl_of (in_t3 (List.mem_of_getElem? (i := 4) rfl)) rfl
set_option maxRecDepth 20000 in
theorem qm_X4_113 : Cond.methodLink RX4 113 yX5_putYear ∈ WL := wl_of (in_t3 (List.mem_of_getElem? (i := 5) rfl)) rfl
set_option maxRecDepth 20000 in
theorem qi_X5_putYear : Cond.instanceMethod yX5_putYear ∈ WL := wl_of (in_t3 (List.mem_of_getElem? (i := 6) rfl)) rfl
set_option maxRecDepth 20000 in
theorem qs_X5_putYear : Cond.selects RX5 yX5_putYear yX5_putYear ∈ WL := wl_of (in_t3 (List.mem_of_getElem? (i := 7) rfl)) rfl
set_option maxRecDepth 20000 in
theorem qc_X5_putYear : Cond.code yX5_putYear cX5_putYear 4 (none : Option FieldType) ∈ WL := wl_of (in_t3 (List.mem_of_getElem? (i := 8) rfl)) rfl
set_option maxRecDepth 20000 in
theorem qm_X10_74 : Cond.methodLink RX10 74 yX7_startWith ∈ WL := wl_of (in_t3 (List.mem_of_getElem? (i := 9) rfl)) rfl
set_option maxRecDepth 20000 in
theorem qi_X7_startWith : Cond.instanceMethod yX7_startWith ∈ WL := wl_of (in_t3 (List.mem_of_getElem? (i := 10) rfl)) rfl
set_option maxRecDepth 20000 in
theorem qs_X7_startWith : Cond.selects RX7 yX7_startWith yX7_startWith ∈ WL := wl_of (in_t3 (List.mem_of_getElem? (i := 11) rfl)) rfl
set_option maxRecDepth 20000 in
theorem qc_X7_startWith : Cond.code yX7_startWith cX7_startWith 2 (none : Option FieldType) ∈ WL := wl_of (in_t3 (List.mem_of_getElem? (i := 12) rfl)) rfl
set_option maxRecDepth 20000 in
theorem qm_X7_47 : Cond.methodLink RX7 47 yX5_copyFrom ∈ WL := wl_of (in_t3 (List.mem_of_getElem? (i := 13) rfl)) rfl
set_option maxRecDepth 20000 in
theorem qi_X5_copyFrom : Cond.instanceMethod yX5_copyFrom ∈ WL := wl_of (in_t3 (List.mem_of_getElem? (i := 14) rfl)) rfl
set_option maxRecDepth 20000 in
theorem qs_X5_copyFrom : Cond.selects RX5 yX5_copyFrom yX5_copyFrom ∈ WL := wl_of (in_t3 (List.mem_of_getElem? (i := 15) rfl)) rfl
set_option maxRecDepth 20000 in
theorem qc_X5_copyFrom : Cond.code yX5_copyFrom cX5_copyFrom 2 (none : Option FieldType) ∈ WL := wl_of (in_t3 (List.mem_of_getElem? (i := 16) rfl)) rfl
set_option maxRecDepth 20000 in
theorem qm_X5_34 : Cond.methodLink RX5 34 ⟨"java/lang/System", "arraycopy", "(Ljava/lang/Object;ILjava/lang/Object;II)V"⟩ ∈ WL := wl_of (in_t3 (List.mem_of_getElem? (i := 17) rfl)) rfl
set_option maxRecDepth 20000 in
theorem qt_java_lang_System_arraycopy : Cond.static ⟨"java/lang/System", "arraycopy", "(Ljava/lang/Object;ILjava/lang/Object;II)V"⟩ ∈ WL := wl_of (in_t3 (List.mem_of_getElem? (i := 18) rfl)) rfl
set_option maxRecDepth 20000 in
theorem qv_java_lang_System_arraycopy : Cond.native ⟨"java/lang/System", "arraycopy", "(Ljava/lang/Object;ILjava/lang/Object;II)V"⟩ ∈ WL := wl_of (in_t3 (List.mem_of_getElem? (i := 19) rfl)) rfl
set_option maxRecDepth 20000 in
theorem qm_X7_76 : Cond.methodLink RX7 76 yX9_clear ∈ WL := wl_of (in_t3 (List.mem_of_getElem? (i := 20) rfl)) rfl
set_option maxRecDepth 20000 in
theorem qi_X9_clear : Cond.instanceMethod yX9_clear ∈ WL := wl_of (in_t3 (List.mem_of_getElem? (i := 21) rfl)) rfl
set_option maxRecDepth 20000 in
theorem qs_X9_clear : Cond.selects RX9 yX9_clear yX9_clear ∈ WL := wl_of (in_t3 (List.mem_of_getElem? (i := 22) rfl)) rfl
set_option maxRecDepth 20000 in
theorem qc_X9_clear : Cond.code yX9_clear cX9_clear 1 (none : Option FieldType) ∈ WL := wl_of (in_t3 (List.mem_of_getElem? (i := 23) rfl)) rfl
set_option maxRecDepth 20000 in
theorem qm_X9_21 : Cond.methodLink RX9 21 yJ7_fill_53178 ∈ WL := wl_of (in_t3 (List.mem_of_getElem? (i := 24) rfl)) rfl
set_option maxRecDepth 20000 in
theorem qm_X7_79 : Cond.methodLink RX7 79 yJ7_fill_7f8df ∈ WL := wl_of (in_t3 (List.mem_of_getElem? (i := 25) rfl)) rfl
set_option maxRecDepth 20000 in
theorem qt_J7_fill_7f8df : Cond.static yJ7_fill_7f8df ∈ WL := wl_of (in_t3 (List.mem_of_getElem? (i := 26) rfl)) rfl
set_option maxRecDepth 20000 in
theorem qc_J7_fill_7f8df : Cond.code yJ7_fill_7f8df cJ7_fill_7f8df 5 (none : Option FieldType) ∈ WL := wl_of (in_t3 (List.mem_of_getElem? (i := 27) rfl)) rfl
set_option maxRecDepth 20000 in
theorem qm_X7_85 : Cond.methodLink RX7 85 yJ7_fill_53178 ∈ WL := wl_of (in_t3 (List.mem_of_getElem? (i := 28) rfl)) rfl
set_option maxRecDepth 20000 in
theorem qm_X7_88 : Cond.methodLink RX7 88 yX7_startPeriod ∈ WL := wl_of (in_t3 (List.mem_of_getElem? (i := 29) rfl)) rfl
set_option maxRecDepth 20000 in
theorem qi_X7_startPeriod : Cond.instanceMethod yX7_startPeriod ∈ WL := wl_of (in_t3 (List.mem_of_getElem? (i := 31) rfl)) rfl
set_option maxRecDepth 20000 in
theorem qc_X7_startPeriod : Cond.code yX7_startPeriod cX7_startPeriod 4 (none : Option FieldType) ∈ WL := wl_of (in_t3 (List.mem_of_getElem? (i := 32) rfl)) rfl
set_option maxRecDepth 20000 in
theorem qm_X7_104 : Cond.methodLink RX7 104 yX7_leftIn ∈ WL := wl_of (in_t3 (List.mem_of_getElem? (i := 33) rfl)) rfl
set_option maxRecDepth 20000 in
theorem qi_X7_leftIn : Cond.instanceMethod yX7_leftIn ∈ WL := wl_of (in_t3 (List.mem_of_getElem? (i := 34) rfl)) rfl
set_option maxRecDepth 20000 in
theorem qs_X7_leftIn : Cond.selects RX7 yX7_leftIn yX7_leftIn ∈ WL := wl_of (in_t3 (List.mem_of_getElem? (i := 35) rfl)) rfl
set_option maxRecDepth 20000 in
theorem qc_X7_leftIn : Cond.code yX7_leftIn cX7_leftIn 4 (some FieldType.int) ∈ WL := wl_of (in_t3 (List.mem_of_getElem? (i := 36) rfl)) rfl
set_option maxRecDepth 20000 in
theorem qm_X7_167 : Cond.methodLink RX7 167 yX3_figure ∈ WL := wl_of (in_t3 (List.mem_of_getElem? (i := 37) rfl)) rfl
set_option maxRecDepth 20000 in
theorem qi_X3_figure : Cond.instanceMethod yX3_figure ∈ WL := wl_of (in_t3 (List.mem_of_getElem? (i := 38) rfl)) rfl
set_option maxRecDepth 20000 in
theorem qs_X3_figure : Cond.selects RX3 yX3_figure yX3_figure ∈ WL := wl_of (in_t3 (List.mem_of_getElem? (i := 39) rfl)) rfl
set_option maxRecDepth 20000 in
theorem qc_X3_figure : Cond.code yX3_figure cX3_figure 3 (some FieldType.int) ∈ WL := wl_of (in_t3 (List.mem_of_getElem? (i := 40) rfl)) rfl
set_option maxRecDepth 20000 in
theorem qm_X7_111 : Cond.methodLink RX7 111 yX3_clearFigures ∈ WL := wl_of (in_t3 (List.mem_of_getElem? (i := 42) rfl)) rfl
set_option maxRecDepth 20000 in
theorem qi_X3_clearFigures : Cond.instanceMethod yX3_clearFigures ∈ WL := wl_of (in_t3 (List.mem_of_getElem? (i := 43) rfl)) rfl
set_option maxRecDepth 20000 in
theorem qs_X3_clearFigures : Cond.selects RX3 yX3_clearFigures yX3_clearFigures ∈ WL := wl_of (in_t3 (List.mem_of_getElem? (i := 44) rfl)) rfl
set_option maxRecDepth 20000 in
theorem qc_X3_clearFigures : Cond.code yX3_clearFigures cX3_clearFigures 3 (none : Option FieldType) ∈ WL := wl_of (in_t3 (List.mem_of_getElem? (i := 45) rfl)) rfl
set_option maxRecDepth 20000 in
theorem qm_X7_115 : Cond.methodLink RX7 115 yX3_add ∈ WL := wl_of (in_t3 (List.mem_of_getElem? (i := 46) rfl)) rfl
set_option maxRecDepth 20000 in
theorem qi_X3_add : Cond.instanceMethod yX3_add ∈ WL := wl_of (in_t3 (List.mem_of_getElem? (i := 47) rfl)) rfl
set_option maxRecDepth 20000 in
theorem qs_X3_add : Cond.selects RX3 yX3_add yX3_add ∈ WL := wl_of (in_t3 (List.mem_of_getElem? (i := 48) rfl)) rfl
set_option maxRecDepth 20000 in
theorem qc_X3_add : Cond.code yX3_add cX3_add 4 (none : Option FieldType) ∈ WL := wl_of (in_t3 (List.mem_of_getElem? (i := 49) rfl)) rfl
set_option maxRecDepth 20000 in
theorem qm_X7_119 : Cond.methodLink RX7 119 yX7_partOut ∈ WL := wl_of (in_t3 (List.mem_of_getElem? (i := 50) rfl)) rfl
set_option maxRecDepth 20000 in
theorem qi_X7_partOut : Cond.instanceMethod yX7_partOut ∈ WL := wl_of (in_t3 (List.mem_of_getElem? (i := 52) rfl)) rfl
set_option maxRecDepth 20000 in
theorem qc_X7_partOut : Cond.code yX7_partOut cX7_partOut 7 (some FieldType.int) ∈ WL := wl_of (in_t3 (List.mem_of_getElem? (i := 53) rfl)) rfl
set_option maxRecDepth 20000 in
theorem qm_X7_129 : Cond.methodLink RX7 129 yX5_yearsWithSome ∈ WL := wl_of (in_t3 (List.mem_of_getElem? (i := 54) rfl)) rfl
set_option maxRecDepth 20000 in
theorem qi_X5_yearsWithSome : Cond.instanceMethod yX5_yearsWithSome ∈ WL := wl_of (in_t3 (List.mem_of_getElem? (i := 55) rfl)) rfl
set_option maxRecDepth 20000 in
theorem qs_X5_yearsWithSome : Cond.selects RX5 yX5_yearsWithSome yX5_yearsWithSome ∈ WL := wl_of (in_t3 (List.mem_of_getElem? (i := 56) rfl)) rfl
set_option maxRecDepth 20000 in
theorem qc_X5_yearsWithSome : Cond.code yX5_yearsWithSome cX5_yearsWithSome 2 (some FieldType.int) ∈ WL := wl_of (in_t3 (List.mem_of_getElem? (i := 57) rfl)) rfl
set_option maxRecDepth 20000 in
theorem qm_X5_40 : Cond.methodLink RX5 40 yX5_inYear ∈ WL := wl_of (in_t3 (List.mem_of_getElem? (i := 58) rfl)) rfl
set_option maxRecDepth 20000 in
theorem qi_X5_inYear : Cond.instanceMethod yX5_inYear ∈ WL := wl_of (in_t3 (List.mem_of_getElem? (i := 59) rfl)) rfl
set_option maxRecDepth 20000 in
theorem qs_X5_inYear : Cond.selects RX5 yX5_inYear yX5_inYear ∈ WL := wl_of (in_t3 (List.mem_of_getElem? (i := 60) rfl)) rfl
set_option maxRecDepth 20000 in
theorem qc_X5_inYear : Cond.code yX5_inYear cX5_inYear 3 (some FieldType.int) ∈ WL := wl_of (in_t3 (List.mem_of_getElem? (i := 61) rfl)) rfl
set_option maxRecDepth 20000 in
theorem qm_X7_138 : Cond.methodLink RX7 138 yX7_shareBy ∈ WL := wl_of (in_t3 (List.mem_of_getElem? (i := 62) rfl)) rfl
set_option maxRecDepth 20000 in
theorem qi_X7_shareBy : Cond.instanceMethod yX7_shareBy ∈ WL := wl_of (in_t3 (List.mem_of_getElem? (i := 63) rfl)) rfl
set_option maxRecDepth 20000 in
theorem qs_X7_shareBy : Cond.selects RX7 yX7_shareBy yX7_shareBy ∈ WL := wl_of (in_t3 (List.mem_of_getElem? (i := 64) rfl)) rfl
set_option maxRecDepth 20000 in
theorem qc_X7_shareBy : Cond.code yX7_shareBy cX7_shareBy 10 (some FieldType.int) ∈ WL := wl_of (in_t3 (List.mem_of_getElem? (i := 65) rfl)) rfl
set_option maxRecDepth 20000 in
theorem qm_X7_148 : Cond.methodLink RX7 148 yX3_isTraditional ∈ WL := wl_of (in_t3 (List.mem_of_getElem? (i := 66) rfl)) rfl
set_option maxRecDepth 20000 in
theorem qi_X3_isTraditional : Cond.instanceMethod yX3_isTraditional ∈ WL := wl_of (in_t3 (List.mem_of_getElem? (i := 67) rfl)) rfl
set_option maxRecDepth 20000 in
theorem qs_X3_isTraditional : Cond.selects RX3 yX3_isTraditional yX3_isTraditional ∈ WL := wl_of (in_t3 (List.mem_of_getElem? (i := 68) rfl)) rfl
set_option maxRecDepth 20000 in
theorem qc_X3_isTraditional : Cond.code yX3_isTraditional cX3_isTraditional 2 (some FieldType.boolean) ∈ WL := wl_of (in_t3 (List.mem_of_getElem? (i := 69) rfl)) rfl
set_option maxRecDepth 20000 in
theorem qm_X7_151 : Cond.methodLink RX7 151 yX5_inOldYears ∈ WL := wl_of (in_t3 (List.mem_of_getElem? (i := 70) rfl)) rfl
set_option maxRecDepth 20000 in
theorem qi_X5_inOldYears : Cond.instanceMethod yX5_inOldYears ∈ WL := wl_of (in_t3 (List.mem_of_getElem? (i := 71) rfl)) rfl
set_option maxRecDepth 20000 in
theorem qs_X5_inOldYears : Cond.selects RX5 yX5_inOldYears yX5_inOldYears ∈ WL := wl_of (in_t3 (List.mem_of_getElem? (i := 72) rfl)) rfl
set_option maxRecDepth 20000 in
theorem qc_X5_inOldYears : Cond.code yX5_inOldYears cX5_inOldYears 2 (some FieldType.int) ∈ WL := wl_of (in_t3 (List.mem_of_getElem? (i := 73) rfl)) rfl
set_option maxRecDepth 20000 in
theorem qt_X10_partOfAll : Cond.static yX10_partOfAll ∈ WL := wl_of (in_t3 (List.mem_of_getElem? (i := 75) rfl)) rfl
set_option maxRecDepth 20000 in
theorem qc_X10_partOfAll : Cond.code yX10_partOfAll cX10_partOfAll 4 (some FieldType.int) ∈ WL := wl_of (in_t3 (List.mem_of_getElem? (i := 76) rfl)) rfl
set_option maxRecDepth 20000 in
theorem qm_X10_78 : Cond.methodLink RX10 78 yX0_forget ∈ WL := wl_of (in_t3 (List.mem_of_getElem? (i := 77) rfl)) rfl
set_option maxRecDepth 20000 in
theorem qi_X0_forget : Cond.instanceMethod yX0_forget ∈ WL := wl_of (in_t3 (List.mem_of_getElem? (i := 78) rfl)) rfl
set_option maxRecDepth 20000 in
theorem qs_X0_forget : Cond.selects RX0 yX0_forget yX0_forget ∈ WL := wl_of (in_t3 (List.mem_of_getElem? (i := 79) rfl)) rfl
set_option maxRecDepth 20000 in
theorem qc_X0_forget : Cond.code yX0_forget cX0_forget 1 (none : Option FieldType) ∈ WL := wl_of (in_t3 (List.mem_of_getElem? (i := 80) rfl)) rfl
set_option maxRecDepth 20000 in
theorem qm_L_28 : Cond.methodLink RL 28 yX10_apply ∈ WL := wl_of (in_t3 (List.mem_of_getElem? (i := 81) rfl)) rfl
set_option maxRecDepth 20000 in
theorem qi_X10_apply : Cond.instanceMethod yX10_apply ∈ WL := wl_of (in_t3 (List.mem_of_getElem? (i := 82) rfl)) rfl
set_option maxRecDepth 20000 in
theorem qs_X10_apply : Cond.selects RX10 yX10_apply yX10_apply ∈ WL := wl_of (in_t3 (List.mem_of_getElem? (i := 83) rfl)) rfl
set_option maxRecDepth 20000 in
theorem qc_X10_apply : Cond.code yX10_apply cX10_apply 5 (some FieldType.int) ∈ WL := wl_of (in_t3 (List.mem_of_getElem? (i := 84) rfl)) rfl
set_option maxRecDepth 20000 in
theorem qm_X10_87 : Cond.methodLink RX10 87 yX7_hasPair ∈ WL := wl_of (in_t3 (List.mem_of_getElem? (i := 85) rfl)) rfl
set_option maxRecDepth 20000 in
theorem qi_X7_hasPair : Cond.instanceMethod yX7_hasPair ∈ WL := wl_of (in_t3 (List.mem_of_getElem? (i := 86) rfl)) rfl
set_option maxRecDepth 20000 in
theorem qs_X7_hasPair : Cond.selects RX7 yX7_hasPair yX7_hasPair ∈ WL := wl_of (in_t3 (List.mem_of_getElem? (i := 87) rfl)) rfl
set_option maxRecDepth 20000 in
theorem qc_X7_hasPair : Cond.code yX7_hasPair cX7_hasPair 3 (some FieldType.boolean) ∈ WL := wl_of (in_t3 (List.mem_of_getElem? (i := 88) rfl)) rfl
set_option maxRecDepth 20000 in
theorem qm_X7_97 : Cond.methodLink RX7 97 yX7_hasImporter ∈ WL := wl_of (in_t3 (List.mem_of_getElem? (i := 89) rfl)) rfl
set_option maxRecDepth 20000 in
theorem qi_X7_hasImporter : Cond.instanceMethod yX7_hasImporter ∈ WL := wl_of (in_t3 (List.mem_of_getElem? (i := 90) rfl)) rfl
set_option maxRecDepth 20000 in
theorem qs_X7_hasImporter : Cond.selects RX7 yX7_hasImporter yX7_hasImporter ∈ WL := wl_of (in_t3 (List.mem_of_getElem? (i := 91) rfl)) rfl
set_option maxRecDepth 20000 in
theorem qc_X7_hasImporter : Cond.code yX7_hasImporter cX7_hasImporter 2 (some FieldType.boolean) ∈ WL := wl_of (in_t3 (List.mem_of_getElem? (i := 92) rfl)) rfl
set_option maxRecDepth 20000 in
theorem qm_X7_101 : Cond.methodLink RX7 101 yX7_hasOrigin ∈ WL := wl_of (in_t3 (List.mem_of_getElem? (i := 93) rfl)) rfl
set_option maxRecDepth 20000 in
theorem qi_X7_hasOrigin : Cond.instanceMethod yX7_hasOrigin ∈ WL := wl_of (in_t3 (List.mem_of_getElem? (i := 94) rfl)) rfl
set_option maxRecDepth 20000 in
theorem qs_X7_hasOrigin : Cond.selects RX7 yX7_hasOrigin yX7_hasOrigin ∈ WL := wl_of (in_t3 (List.mem_of_getElem? (i := 95) rfl)) rfl
set_option maxRecDepth 20000 in
theorem qc_X7_hasOrigin : Cond.code yX7_hasOrigin cX7_hasOrigin 2 (some FieldType.boolean) ∈ WL := wl_of (in_t3 (List.mem_of_getElem? (i := 96) rfl)) rfl
set_option maxRecDepth 20000 in
theorem qm_X10_91 : Cond.methodLink RX10 91 yX10_isAmount ∈ WL := wl_of (in_t3 (List.mem_of_getElem? (i := 97) rfl)) rfl
set_option maxRecDepth 20000 in
theorem qt_X10_isAmount : Cond.static yX10_isAmount ∈ WL := wl_of (in_t3 (List.mem_of_getElem? (i := 98) rfl)) rfl
set_option maxRecDepth 20000 in
theorem qc_X10_isAmount : Cond.code yX10_isAmount cX10_isAmount 1 (some FieldType.boolean) ∈ WL := wl_of (in_t3 (List.mem_of_getElem? (i := 99) rfl)) rfl
set_option maxRecDepth 20000 in
theorem qk_X10_194 : Cond.constant RX10 194 (99999) ∈ WL := wl_of (in_t3 (List.mem_of_getElem? (i := 100) rfl)) rfl
set_option maxRecDepth 20000 in
theorem qm_X10_95 : Cond.methodLink RX10 95 yX7_offerNow ∈ WL := wl_of (in_t3 (List.mem_of_getElem? (i := 101) rfl)) rfl
set_option maxRecDepth 20000 in
theorem qi_X7_offerNow : Cond.instanceMethod yX7_offerNow ∈ WL := wl_of (in_t3 (List.mem_of_getElem? (i := 102) rfl)) rfl
set_option maxRecDepth 20000 in
theorem qs_X7_offerNow : Cond.selects RX7 yX7_offerNow yX7_offerNow ∈ WL := wl_of (in_t3 (List.mem_of_getElem? (i := 103) rfl)) rfl
set_option maxRecDepth 20000 in
theorem qc_X7_offerNow : Cond.code yX7_offerNow cX7_offerNow 4 (some FieldType.int) ∈ WL := wl_of (in_t3 (List.mem_of_getElem? (i := 104) rfl)) rfl
set_option maxRecDepth 20000 in
theorem qm_X7_192 : Cond.methodLink RX7 192 yX7_offerOf ∈ WL := wl_of (in_t3 (List.mem_of_getElem? (i := 105) rfl)) rfl
set_option maxRecDepth 20000 in
theorem qi_X7_offerOf : Cond.instanceMethod yX7_offerOf ∈ WL := wl_of (in_t3 (List.mem_of_getElem? (i := 106) rfl)) rfl
set_option maxRecDepth 20000 in
theorem qs_X7_offerOf : Cond.selects RX7 yX7_offerOf yX7_offerOf ∈ WL := wl_of (in_t3 (List.mem_of_getElem? (i := 107) rfl)) rfl
set_option maxRecDepth 20000 in
theorem qc_X7_offerOf : Cond.code yX7_offerOf cX7_offerOf 8 (some FieldType.int) ∈ WL := wl_of (in_t3 (List.mem_of_getElem? (i := 108) rfl)) rfl
set_option maxRecDepth 20000 in
theorem qm_X7_196 : Cond.methodLink RX7 196 yX7_isKeptOut ∈ WL := wl_of (in_t3 (List.mem_of_getElem? (i := 109) rfl)) rfl
set_option maxRecDepth 20000 in
theorem qi_X7_isKeptOut : Cond.instanceMethod yX7_isKeptOut ∈ WL := wl_of (in_t3 (List.mem_of_getElem? (i := 110) rfl)) rfl
set_option maxRecDepth 20000 in
theorem qs_X7_isKeptOut : Cond.selects RX7 yX7_isKeptOut yX7_isKeptOut ∈ WL := wl_of (in_t3 (List.mem_of_getElem? (i := 111) rfl)) rfl
set_option maxRecDepth 20000 in
theorem qc_X7_isKeptOut : Cond.code yX7_isKeptOut cX7_isKeptOut 4 (some FieldType.boolean) ∈ WL := wl_of (in_t3 (List.mem_of_getElem? (i := 112) rfl)) rfl
set_option maxRecDepth 20000 in
theorem qm_X7_247 : Cond.methodLink RX7 247 yX1_endedLast ∈ WL := wl_of (in_t3 (List.mem_of_getElem? (i := 113) rfl)) rfl
set_option maxRecDepth 20000 in
theorem qi_X1_endedLast : Cond.instanceMethod yX1_endedLast ∈ WL := wl_of (in_t3 (List.mem_of_getElem? (i := 114) rfl)) rfl
set_option maxRecDepth 20000 in
theorem qs_X1_endedLast : Cond.selects RX1 yX1_endedLast yX1_endedLast ∈ WL := wl_of (in_t3 (List.mem_of_getElem? (i := 115) rfl)) rfl
set_option maxRecDepth 20000 in
theorem qc_X1_endedLast : Cond.code yX1_endedLast cX1_endedLast 5 (some FieldType.int) ∈ WL := wl_of (in_t3 (List.mem_of_getElem? (i := 116) rfl)) rfl
set_option maxRecDepth 20000 in
theorem qm_X1_52 : Cond.methodLink RX1 52 yX1_isOpen ∈ WL := wl_of (in_t3 (List.mem_of_getElem? (i := 117) rfl)) rfl
set_option maxRecDepth 20000 in
theorem qi_X1_isOpen : Cond.instanceMethod yX1_isOpen ∈ WL := wl_of (in_t3 (List.mem_of_getElem? (i := 118) rfl)) rfl
set_option maxRecDepth 20000 in
theorem qs_X1_isOpen : Cond.selects RX1 yX1_isOpen yX1_isOpen ∈ WL := wl_of (in_t3 (List.mem_of_getElem? (i := 119) rfl)) rfl
set_option maxRecDepth 20000 in
theorem qc_X1_isOpen : Cond.code yX1_isOpen cX1_isOpen 2 (some FieldType.boolean) ∈ WL := wl_of (in_t3 (List.mem_of_getElem? (i := 120) rfl)) rfl
set_option maxRecDepth 20000 in
theorem qm_X1_56 : Cond.methodLink RX1 56 yX1_isFor ∈ WL := wl_of (in_t3 (List.mem_of_getElem? (i := 121) rfl)) rfl
set_option maxRecDepth 20000 in
theorem qi_X1_isFor : Cond.instanceMethod yX1_isFor ∈ WL := wl_of (in_t3 (List.mem_of_getElem? (i := 122) rfl)) rfl
set_option maxRecDepth 20000 in
theorem qs_X1_isFor : Cond.selects RX1 yX1_isFor yX1_isFor ∈ WL := wl_of (in_t3 (List.mem_of_getElem? (i := 123) rfl)) rfl
set_option maxRecDepth 20000 in
theorem qc_X1_isFor : Cond.code yX1_isFor cX1_isFor 4 (some FieldType.boolean) ∈ WL := wl_of (in_t3 (List.mem_of_getElem? (i := 124) rfl)) rfl
set_option maxRecDepth 20000 in
theorem qm_X7_250 : Cond.methodLink RX7 250 yX7_isIdle ∈ WL := wl_of (in_t3 (List.mem_of_getElem? (i := 125) rfl)) rfl
set_option maxRecDepth 20000 in
theorem qi_X7_isIdle : Cond.instanceMethod yX7_isIdle ∈ WL := wl_of (in_t3 (List.mem_of_getElem? (i := 126) rfl)) rfl
set_option maxRecDepth 20000 in
theorem qs_X7_isIdle : Cond.selects RX7 yX7_isIdle yX7_isIdle ∈ WL := wl_of (in_t3 (List.mem_of_getElem? (i := 127) rfl)) rfl
set_option maxRecDepth 20000 in
theorem qc_X7_isIdle : Cond.code yX7_isIdle cX7_isIdle 2 (some FieldType.boolean) ∈ WL := wl_of (in_t3 (List.mem_of_getElem? (i := 128) rfl)) rfl
set_option maxRecDepth 20000 in
theorem qm_X7_241 : Cond.methodLink RX7 241 yX7_neededFor ∈ WL := wl_of (in_t3 (List.mem_of_getElem? (i := 129) rfl)) rfl
set_option maxRecDepth 20000 in
theorem qi_X7_neededFor : Cond.instanceMethod yX7_neededFor ∈ WL := wl_of (in_t3 (List.mem_of_getElem? (i := 130) rfl)) rfl
set_option maxRecDepth 20000 in
theorem qs_X7_neededFor : Cond.selects RX7 yX7_neededFor yX7_neededFor ∈ WL := wl_of (in_t3 (List.mem_of_getElem? (i := 131) rfl)) rfl
set_option maxRecDepth 20000 in
theorem qc_X7_neededFor : Cond.code yX7_neededFor cX7_neededFor 3 (some FieldType.int) ∈ WL := wl_of (in_t3 (List.mem_of_getElem? (i := 132) rfl)) rfl
set_option maxRecDepth 20000 in
theorem qm_X7_200 : Cond.methodLink RX7 200 yJ9_min_7cf53 ∈ WL := wl_of (in_t3 (List.mem_of_getElem? (i := 133) rfl)) rfl
set_option maxRecDepth 20000 in
theorem qm_X10_99 : Cond.methodLink RX10 99 yX0_remember ∈ WL := wl_of (in_t3 (List.mem_of_getElem? (i := 134) rfl)) rfl
set_option maxRecDepth 20000 in
theorem qi_X0_remember : Cond.instanceMethod yX0_remember ∈ WL := wl_of (in_t3 (List.mem_of_getElem? (i := 135) rfl)) rfl
set_option maxRecDepth 20000 in
theorem qs_X0_remember : Cond.selects RX0 yX0_remember yX0_remember ∈ WL := wl_of (in_t3 (List.mem_of_getElem? (i := 136) rfl)) rfl
set_option maxRecDepth 20000 in
theorem qc_X0_remember : Cond.code yX0_remember cX0_remember 3 (none : Option FieldType) ∈ WL := wl_of (in_t3 (List.mem_of_getElem? (i := 137) rfl)) rfl
set_option maxRecDepth 20000 in
theorem qm_X0_22 : Cond.methodLink RX0 22 yX7_copyFrom ∈ WL := wl_of (in_t3 (List.mem_of_getElem? (i := 139) rfl)) rfl
set_option maxRecDepth 20000 in
theorem qi_X7_copyFrom : Cond.instanceMethod yX7_copyFrom ∈ WL := wl_of (in_t3 (List.mem_of_getElem? (i := 140) rfl)) rfl
set_option maxRecDepth 20000 in
theorem qs_X7_copyFrom : Cond.selects RX7 yX7_copyFrom yX7_copyFrom ∈ WL := wl_of (in_t3 (List.mem_of_getElem? (i := 141) rfl)) rfl
set_option maxRecDepth 20000 in
theorem qc_X7_copyFrom : Cond.code yX7_copyFrom cX7_copyFrom 2 (none : Option FieldType) ∈ WL := wl_of (in_t3 (List.mem_of_getElem? (i := 142) rfl)) rfl
set_option maxRecDepth 20000 in
theorem qm_X7_51 : Cond.methodLink RX7 51 yX1_copyFrom ∈ WL := wl_of (in_t3 (List.mem_of_getElem? (i := 143) rfl)) rfl
set_option maxRecDepth 20000 in
theorem qi_X1_copyFrom : Cond.instanceMethod yX1_copyFrom ∈ WL := wl_of (in_t3 (List.mem_of_getElem? (i := 144) rfl)) rfl
set_option maxRecDepth 20000 in
theorem qs_X1_copyFrom : Cond.selects RX1 yX1_copyFrom yX1_copyFrom ∈ WL := wl_of (in_t3 (List.mem_of_getElem? (i := 145) rfl)) rfl
set_option maxRecDepth 20000 in
theorem qc_X1_copyFrom : Cond.code yX1_copyFrom cX1_copyFrom 2 (none : Option FieldType) ∈ WL := wl_of (in_t3 (List.mem_of_getElem? (i := 146) rfl)) rfl
set_option maxRecDepth 20000 in
theorem qm_X1_46 : Cond.methodLink RX1 46 ⟨"java/lang/System", "arraycopy", "(Ljava/lang/Object;ILjava/lang/Object;II)V"⟩ ∈ WL := wl_of (in_t3 (List.mem_of_getElem? (i := 147) rfl)) rfl
set_option maxRecDepth 20000 in
theorem qm_X7_54 : Cond.methodLink RX7 54 yX3_copyFrom ∈ WL := wl_of (in_t3 (List.mem_of_getElem? (i := 148) rfl)) rfl
set_option maxRecDepth 20000 in
theorem qi_X3_copyFrom : Cond.instanceMethod yX3_copyFrom ∈ WL := wl_of (in_t3 (List.mem_of_getElem? (i := 149) rfl)) rfl
set_option maxRecDepth 20000 in
theorem qs_X3_copyFrom : Cond.selects RX3 yX3_copyFrom yX3_copyFrom ∈ WL := wl_of (in_t3 (List.mem_of_getElem? (i := 150) rfl)) rfl
set_option maxRecDepth 20000 in
theorem qc_X3_copyFrom : Cond.code yX3_copyFrom cX3_copyFrom 2 (none : Option FieldType) ∈ WL := wl_of (in_t3 (List.mem_of_getElem? (i := 151) rfl)) rfl
set_option maxRecDepth 20000 in
theorem qm_X3_30 : Cond.methodLink RX3 30 ⟨"java/lang/System", "arraycopy", "(Ljava/lang/Object;ILjava/lang/Object;II)V"⟩ ∈ WL := wl_of (in_t3 (List.mem_of_getElem? (i := 152) rfl)) rfl
set_option maxRecDepth 20000 in
theorem qm_X7_57 : Cond.methodLink RX7 57 yX9_copyFrom ∈ WL := wl_of (in_t3 (List.mem_of_getElem? (i := 153) rfl)) rfl
set_option maxRecDepth 20000 in
theorem qi_X9_copyFrom : Cond.instanceMethod yX9_copyFrom ∈ WL := wl_of (in_t3 (List.mem_of_getElem? (i := 154) rfl)) rfl
set_option maxRecDepth 20000 in
theorem qs_X9_copyFrom : Cond.selects RX9 yX9_copyFrom yX9_copyFrom ∈ WL := wl_of (in_t3 (List.mem_of_getElem? (i := 155) rfl)) rfl
set_option maxRecDepth 20000 in
theorem qc_X9_copyFrom : Cond.code yX9_copyFrom cX9_copyFrom 2 (none : Option FieldType) ∈ WL := wl_of (in_t3 (List.mem_of_getElem? (i := 156) rfl)) rfl
set_option maxRecDepth 20000 in
theorem qm_X9_27 : Cond.methodLink RX9 27 ⟨"java/lang/System", "arraycopy", "(Ljava/lang/Object;ILjava/lang/Object;II)V"⟩ ∈ WL := wl_of (in_t3 (List.mem_of_getElem? (i := 157) rfl)) rfl
set_option maxRecDepth 20000 in
theorem qm_X7_60 : Cond.methodLink RX7 60 ⟨"java/lang/System", "arraycopy", "(Ljava/lang/Object;ILjava/lang/Object;II)V"⟩ ∈ WL := wl_of (in_t3 (List.mem_of_getElem? (i := 158) rfl)) rfl
set_option maxRecDepth 20000 in
theorem qm_X0_29 : Cond.methodLink RX0 29 yJ9_min_7cf53 ∈ WL := wl_of (in_t3 (List.mem_of_getElem? (i := 159) rfl)) rfl
set_option maxRecDepth 20000 in
theorem qm_X10_103 : Cond.methodLink RX10 103 yX7_grant ∈ WL := wl_of (in_t3 (List.mem_of_getElem? (i := 160) rfl)) rfl
set_option maxRecDepth 20000 in
theorem qi_X7_grant : Cond.instanceMethod yX7_grant ∈ WL := wl_of (in_t3 (List.mem_of_getElem? (i := 161) rfl)) rfl
set_option maxRecDepth 20000 in
theorem qs_X7_grant : Cond.selects RX7 yX7_grant yX7_grant ∈ WL := wl_of (in_t3 (List.mem_of_getElem? (i := 162) rfl)) rfl
set_option maxRecDepth 20000 in
theorem qc_X7_grant : Cond.code yX7_grant cX7_grant 7 (some FieldType.int) ∈ WL := wl_of (in_t3 (List.mem_of_getElem? (i := 163) rfl)) rfl
set_option maxRecDepth 20000 in
theorem qm_X7_205 : Cond.methodLink RX7 205 yX1_issue ∈ WL := wl_of (in_t3 (List.mem_of_getElem? (i := 164) rfl)) rfl
set_option maxRecDepth 20000 in
theorem qi_X1_issue : Cond.instanceMethod yX1_issue ∈ WL := wl_of (in_t3 (List.mem_of_getElem? (i := 165) rfl)) rfl
set_option maxRecDepth 20000 in
theorem qs_X1_issue : Cond.selects RX1 yX1_issue yX1_issue ∈ WL := wl_of (in_t3 (List.mem_of_getElem? (i := 166) rfl)) rfl
set_option maxRecDepth 20000 in
theorem qc_X1_issue : Cond.code yX1_issue cX1_issue 8 (some FieldType.int) ∈ WL := wl_of (in_t3 (List.mem_of_getElem? (i := 167) rfl)) rfl
set_option maxRecDepth 20000 in
theorem qm_L_33 : Cond.methodLink RL 33 yX10_use ∈ WL := wl_of (in_t3 (List.mem_of_getElem? (i := 168) rfl)) rfl
set_option maxRecDepth 20000 in
theorem qi_X10_use : Cond.instanceMethod yX10_use ∈ WL := wl_of (in_t3 (List.mem_of_getElem? (i := 169) rfl)) rfl
set_option maxRecDepth 20000 in
theorem qs_X10_use : Cond.selects RX10 yX10_use yX10_use ∈ WL := wl_of (in_t3 (List.mem_of_getElem? (i := 170) rfl)) rfl
set_option maxRecDepth 20000 in
theorem qc_X10_use : Cond.code yX10_use cX10_use 3 (some FieldType.int) ∈ WL := wl_of (in_t3 (List.mem_of_getElem? (i := 171) rfl)) rfl
set_option maxRecDepth 20000 in
theorem qm_X10_110 : Cond.methodLink RX10 110 yX1_has ∈ WL := wl_of (in_t3 (List.mem_of_getElem? (i := 172) rfl)) rfl
set_option maxRecDepth 20000 in
theorem qi_X1_has : Cond.instanceMethod yX1_has ∈ WL := wl_of (in_t3 (List.mem_of_getElem? (i := 173) rfl)) rfl
set_option maxRecDepth 20000 in
theorem qs_X1_has : Cond.selects RX1 yX1_has yX1_has ∈ WL := wl_of (in_t3 (List.mem_of_getElem? (i := 174) rfl)) rfl
set_option maxRecDepth 20000 in
theorem qc_X1_has : Cond.code yX1_has cX1_has 2 (some FieldType.boolean) ∈ WL := wl_of (in_t3 (List.mem_of_getElem? (i := 175) rfl)) rfl
set_option maxRecDepth 20000 in
theorem qm_X10_115 : Cond.methodLink RX10 115 yX1_isOpen ∈ WL := wl_of (in_t3 (List.mem_of_getElem? (i := 176) rfl)) rfl
set_option maxRecDepth 20000 in
theorem qm_X10_118 : Cond.methodLink RX10 118 yX1_remains ∈ WL := wl_of (in_t3 (List.mem_of_getElem? (i := 177) rfl)) rfl
set_option maxRecDepth 20000 in
theorem qi_X1_remains : Cond.instanceMethod yX1_remains ∈ WL := wl_of (in_t3 (List.mem_of_getElem? (i := 178) rfl)) rfl
set_option maxRecDepth 20000 in
theorem qs_X1_remains : Cond.selects RX1 yX1_remains yX1_remains ∈ WL := wl_of (in_t3 (List.mem_of_getElem? (i := 179) rfl)) rfl
set_option maxRecDepth 20000 in
theorem qc_X1_remains : Cond.code yX1_remains cX1_remains 2 (some FieldType.int) ∈ WL := wl_of (in_t3 (List.mem_of_getElem? (i := 180) rfl)) rfl
set_option maxRecDepth 20000 in
theorem qm_X10_121 : Cond.methodLink RX10 121 yX7_importBy ∈ WL := wl_of (in_t3 (List.mem_of_getElem? (i := 181) rfl)) rfl
set_option maxRecDepth 20000 in
theorem qi_X7_importBy : Cond.instanceMethod yX7_importBy ∈ WL := wl_of (in_t3 (List.mem_of_getElem? (i := 182) rfl)) rfl
set_option maxRecDepth 20000 in
theorem qs_X7_importBy : Cond.selects RX7 yX7_importBy yX7_importBy ∈ WL := wl_of (in_t3 (List.mem_of_getElem? (i := 183) rfl)) rfl
set_option maxRecDepth 20000 in
theorem qc_X7_importBy : Cond.code yX7_importBy cX7_importBy 6 (none : Option FieldType) ∈ WL := wl_of (in_t3 (List.mem_of_getElem? (i := 184) rfl)) rfl
set_option maxRecDepth 20000 in
theorem qm_X7_221 : Cond.methodLink RX7 221 yX1_closeIfUsedUp ∈ WL := wl_of (in_t3 (List.mem_of_getElem? (i := 185) rfl)) rfl
set_option maxRecDepth 20000 in
theorem qi_X1_closeIfUsedUp : Cond.instanceMethod yX1_closeIfUsedUp ∈ WL := wl_of (in_t3 (List.mem_of_getElem? (i := 186) rfl)) rfl
set_option maxRecDepth 20000 in
theorem qs_X1_closeIfUsedUp : Cond.selects RX1 yX1_closeIfUsedUp yX1_closeIfUsedUp ∈ WL := wl_of (in_t3 (List.mem_of_getElem? (i := 187) rfl)) rfl
set_option maxRecDepth 20000 in
theorem qc_X1_closeIfUsedUp : Cond.code yX1_closeIfUsedUp cX1_closeIfUsedUp 3 (none : Option FieldType) ∈ WL := wl_of (in_t3 (List.mem_of_getElem? (i := 188) rfl)) rfl
set_option maxRecDepth 20000 in
theorem qm_X1_60 : Cond.methodLink RX1 60 yX1_remains ∈ WL := wl_of (in_t3 (List.mem_of_getElem? (i := 189) rfl)) rfl
set_option maxRecDepth 20000 in
theorem qm_X1_64 : Cond.methodLink RX1 64 yX1_close ∈ WL := wl_of (in_t3 (List.mem_of_getElem? (i := 190) rfl)) rfl
set_option maxRecDepth 20000 in
theorem qi_X1_close : Cond.instanceMethod yX1_close ∈ WL := wl_of (in_t3 (List.mem_of_getElem? (i := 191) rfl)) rfl
set_option maxRecDepth 20000 in
theorem qs_X1_close : Cond.selects RX1 yX1_close yX1_close ∈ WL := wl_of (in_t3 (List.mem_of_getElem? (i := 192) rfl)) rfl
set_option maxRecDepth 20000 in
theorem qc_X1_close : Cond.code yX1_close cX1_close 4 (none : Option FieldType) ∈ WL := wl_of (in_t3 (List.mem_of_getElem? (i := 193) rfl)) rfl
set_option maxRecDepth 20000 in
theorem qm_L_38 : Cond.methodLink RL 38 yX10_giveBack ∈ WL := wl_of (in_t3 (List.mem_of_getElem? (i := 194) rfl)) rfl
set_option maxRecDepth 20000 in
theorem qi_X10_giveBack : Cond.instanceMethod yX10_giveBack ∈ WL := wl_of (in_t3 (List.mem_of_getElem? (i := 195) rfl)) rfl
set_option maxRecDepth 20000 in
theorem qs_X10_giveBack : Cond.selects RX10 yX10_giveBack yX10_giveBack ∈ WL := wl_of (in_t3 (List.mem_of_getElem? (i := 196) rfl)) rfl
set_option maxRecDepth 20000 in
theorem qc_X10_giveBack : Cond.code yX10_giveBack cX10_giveBack 3 (some FieldType.int) ∈ WL := wl_of (in_t3 (List.mem_of_getElem? (i := 197) rfl)) rfl
set_option maxRecDepth 20000 in
theorem qm_X10_125 : Cond.methodLink RX10 125 yX7_closeIntoPool ∈ WL := wl_of (in_t3 (List.mem_of_getElem? (i := 198) rfl)) rfl
set_option maxRecDepth 20000 in
theorem qi_X7_closeIntoPool : Cond.instanceMethod yX7_closeIntoPool ∈ WL := wl_of (in_t3 (List.mem_of_getElem? (i := 199) rfl)) rfl
set_option maxRecDepth 20000 in
theorem qs_X7_closeIntoPool : Cond.selects RX7 yX7_closeIntoPool yX7_closeIntoPool ∈ WL := wl_of (in_t3 (List.mem_of_getElem? (i := 200) rfl)) rfl
set_option maxRecDepth 20000 in
theorem qc_X7_closeIntoPool : Cond.code yX7_closeIntoPool cX7_closeIntoPool 5 (some FieldType.int) ∈ WL := wl_of (in_t3 (List.mem_of_getElem? (i := 201) rfl)) rfl
set_option maxRecDepth 20000 in
theorem qm_X7_232 : Cond.methodLink RX7 232 yX1_remains ∈ WL := wl_of (in_t3 (List.mem_of_getElem? (i := 202) rfl)) rfl
set_option maxRecDepth 20000 in
theorem qm_X7_235 : Cond.methodLink RX7 235 yX1_close ∈ WL := wl_of (in_t3 (List.mem_of_getElem? (i := 203) rfl)) rfl
set_option maxRecDepth 20000 in
theorem qm_X7_238 : Cond.methodLink RX7 238 yX7_isOfThisPeriod ∈ WL := wl_of (in_t3 (List.mem_of_getElem? (i := 204) rfl)) rfl
set_option maxRecDepth 20000 in
theorem qi_X7_isOfThisPeriod : Cond.instanceMethod yX7_isOfThisPeriod ∈ WL := wl_of (in_t3 (List.mem_of_getElem? (i := 206) rfl)) rfl
set_option maxRecDepth 20000 in
theorem qc_X7_isOfThisPeriod : Cond.code yX7_isOfThisPeriod cX7_isOfThisPeriod 2 (some FieldType.boolean) ∈ WL := wl_of (in_t3 (List.mem_of_getElem? (i := 207) rfl)) rfl
set_option maxRecDepth 20000 in
theorem qm_L_42 : Cond.methodLink RL 42 yX10_hand ∈ WL := wl_of (in_t3 (List.mem_of_getElem? (i := 208) rfl)) rfl
set_option maxRecDepth 20000 in
theorem qi_X10_hand : Cond.instanceMethod yX10_hand ∈ WL := wl_of (in_t3 (List.mem_of_getElem? (i := 209) rfl)) rfl
set_option maxRecDepth 20000 in
theorem qs_X10_hand : Cond.selects RX10 yX10_hand yX10_hand ∈ WL := wl_of (in_t3 (List.mem_of_getElem? (i := 210) rfl)) rfl
set_option maxRecDepth 20000 in
theorem qc_X10_hand : Cond.code yX10_hand cX10_hand 5 (some FieldType.int) ∈ WL := wl_of (in_t3 (List.mem_of_getElem? (i := 211) rfl)) rfl
set_option maxRecDepth 20000 in
theorem qm_X10_133 : Cond.methodLink RX10 133 yX7_hasImporter ∈ WL := wl_of (in_t3 (List.mem_of_getElem? (i := 212) rfl)) rfl
set_option maxRecDepth 20000 in
theorem qm_X10_145 : Cond.methodLink RX10 145 yX1_handOn ∈ WL := wl_of (in_t3 (List.mem_of_getElem? (i := 213) rfl)) rfl
set_option maxRecDepth 20000 in
theorem qi_X1_handOn : Cond.instanceMethod yX1_handOn ∈ WL := wl_of (in_t3 (List.mem_of_getElem? (i := 214) rfl)) rfl
set_option maxRecDepth 20000 in
theorem qs_X1_handOn : Cond.selects RX1 yX1_handOn yX1_handOn ∈ WL := wl_of (in_t3 (List.mem_of_getElem? (i := 215) rfl)) rfl
set_option maxRecDepth 20000 in
theorem qc_X1_handOn : Cond.code yX1_handOn cX1_handOn 6 (some FieldType.int) ∈ WL := wl_of (in_t3 (List.mem_of_getElem? (i := 216) rfl)) rfl
set_option maxRecDepth 20000 in
theorem qm_X1_68 : Cond.methodLink RX1 68 yX1_issue ∈ WL := wl_of (in_t3 (List.mem_of_getElem? (i := 217) rfl)) rfl
set_option maxRecDepth 20000 in
theorem qm_X1_72 : Cond.methodLink RX1 72 yX1_closeIfUsedUp ∈ WL := wl_of (in_t3 (List.mem_of_getElem? (i := 218) rfl)) rfl
set_option maxRecDepth 20000 in
theorem qm_L_46 : Cond.methodLink RL 46 yX10_merge ∈ WL := wl_of (in_t3 (List.mem_of_getElem? (i := 219) rfl)) rfl
set_option maxRecDepth 20000 in
theorem qi_X10_merge : Cond.instanceMethod yX10_merge ∈ WL := wl_of (in_t3 (List.mem_of_getElem? (i := 220) rfl)) rfl
set_option maxRecDepth 20000 in
theorem qs_X10_merge : Cond.selects RX10 yX10_merge yX10_merge ∈ WL := wl_of (in_t3 (List.mem_of_getElem? (i := 221) rfl)) rfl
set_option maxRecDepth 20000 in
theorem qc_X10_merge : Cond.code yX10_merge cX10_merge 4 (some FieldType.int) ∈ WL := wl_of (in_t3 (List.mem_of_getElem? (i := 222) rfl)) rfl
set_option maxRecDepth 20000 in
theorem qm_X10_149 : Cond.methodLink RX10 149 yX1_areAlike ∈ WL := wl_of (in_t3 (List.mem_of_getElem? (i := 223) rfl)) rfl
set_option maxRecDepth 20000 in
theorem qi_X1_areAlike : Cond.instanceMethod yX1_areAlike ∈ WL := wl_of (in_t3 (List.mem_of_getElem? (i := 224) rfl)) rfl
set_option maxRecDepth 20000 in
theorem qs_X1_areAlike : Cond.selects RX1 yX1_areAlike yX1_areAlike ∈ WL := wl_of (in_t3 (List.mem_of_getElem? (i := 225) rfl)) rfl
set_option maxRecDepth 20000 in
theorem qc_X1_areAlike : Cond.code yX1_areAlike cX1_areAlike 3 (some FieldType.boolean) ∈ WL := wl_of (in_t3 (List.mem_of_getElem? (i := 226) rfl)) rfl
set_option maxRecDepth 20000 in
theorem qm_X10_152 : Cond.methodLink RX10 152 yX1_takeOver ∈ WL := wl_of (in_t3 (List.mem_of_getElem? (i := 227) rfl)) rfl
set_option maxRecDepth 20000 in
theorem qi_X1_takeOver : Cond.instanceMethod yX1_takeOver ∈ WL := wl_of (in_t3 (List.mem_of_getElem? (i := 228) rfl)) rfl
set_option maxRecDepth 20000 in
theorem qs_X1_takeOver : Cond.selects RX1 yX1_takeOver yX1_takeOver ∈ WL := wl_of (in_t3 (List.mem_of_getElem? (i := 229) rfl)) rfl
set_option maxRecDepth 20000 in
theorem qc_X1_takeOver : Cond.code yX1_takeOver cX1_takeOver 4 (none : Option FieldType) ∈ WL := wl_of (in_t3 (List.mem_of_getElem? (i := 230) rfl)) rfl
set_option maxRecDepth 20000 in
theorem qm_L_50 : Cond.methodLink RL 50 yX10_lend ∈ WL := wl_of (in_t3 (List.mem_of_getElem? (i := 231) rfl)) rfl
set_option maxRecDepth 20000 in
theorem qi_X10_lend : Cond.instanceMethod yX10_lend ∈ WL := wl_of (in_t3 (List.mem_of_getElem? (i := 232) rfl)) rfl
set_option maxRecDepth 20000 in
theorem qs_X10_lend : Cond.selects RX10 yX10_lend yX10_lend ∈ WL := wl_of (in_t3 (List.mem_of_getElem? (i := 233) rfl)) rfl
set_option maxRecDepth 20000 in
theorem qc_X10_lend : Cond.code yX10_lend cX10_lend 8 (some FieldType.int) ∈ WL := wl_of (in_t3 (List.mem_of_getElem? (i := 234) rfl)) rfl
set_option maxRecDepth 20000 in
theorem qm_X10_160 : Cond.methodLink RX10 160 yX10_pairOf ∈ WL := wl_of (in_t3 (List.mem_of_getElem? (i := 235) rfl)) rfl
set_option maxRecDepth 20000 in
theorem qm_X10_163 : Cond.methodLink RX10 163 yX3_isTraditional ∈ WL := wl_of (in_t3 (List.mem_of_getElem? (i := 236) rfl)) rfl
set_option maxRecDepth 20000 in
theorem qm_L_55 : Cond.methodLink RL 55 yX10_excess ∈ WL := wl_of (in_t3 (List.mem_of_getElem? (i := 237) rfl)) rfl
set_option maxRecDepth 20000 in
theorem qi_X10_excess : Cond.instanceMethod yX10_excess ∈ WL := wl_of (in_t3 (List.mem_of_getElem? (i := 238) rfl)) rfl
set_option maxRecDepth 20000 in
theorem qs_X10_excess : Cond.selects RX10 yX10_excess yX10_excess ∈ WL := wl_of (in_t3 (List.mem_of_getElem? (i := 239) rfl)) rfl
set_option maxRecDepth 20000 in
theorem qc_X10_excess : Cond.code yX10_excess cX10_excess 5 (some FieldType.long) ∈ WL := wl_of (in_t4 (List.mem_of_getElem? (i := 0) rfl)) rfl
set_option maxRecDepth 20000 in
theorem qk_X10_171 : Cond.constantLong RX10 171 (-1) ∈ WL := wl_of (in_t4 (List.mem_of_getElem? (i := 1) rfl)) rfl
set_option maxRecDepth 20000 in
theorem qm_X10_173 : Cond.methodLink RX10 173 yX7_importWithout ∈ WL := wl_of (in_t4 (List.mem_of_getElem? (i := 2) rfl)) rfl
set_option maxRecDepth 20000 in
theorem qi_X7_importWithout : Cond.instanceMethod yX7_importWithout ∈ WL := wl_of (in_t4 (List.mem_of_getElem? (i := 3) rfl)) rfl
set_option maxRecDepth 20000 in
theorem qs_X7_importWithout : Cond.selects RX7 yX7_importWithout yX7_importWithout ∈ WL := wl_of (in_t4 (List.mem_of_getElem? (i := 4) rfl)) rfl
set_option maxRecDepth 20000 in
theorem qc_X7_importWithout : Cond.code yX7_importWithout cX7_importWithout 7 (some FieldType.double) ∈ WL := wl_of (in_t4 (List.mem_of_getElem? (i := 5) rfl)) rfl
set_option maxRecDepth 20000 in
theorem qk_X7_230 : Cond.constantDouble RX7 230 (4652007308841189376) ∈ WL := wl_of (in_t4 (List.mem_of_getElem? (i := 6) rfl)) rfl
set_option maxRecDepth 20000 in
theorem qm_X10_177 : Cond.methodLink RX10 177 yX10_bitsOf ∈ WL := wl_of (in_t4 (List.mem_of_getElem? (i := 7) rfl)) rfl
set_option maxRecDepth 20000 in
theorem qt_X10_bitsOf : Cond.static yX10_bitsOf ∈ WL := wl_of (in_t4 (List.mem_of_getElem? (i := 8) rfl)) rfl
set_option maxRecDepth 20000 in
theorem qc_X10_bitsOf : Cond.code yX10_bitsOf cX10_bitsOf 8 (some FieldType.long) ∈ WL := wl_of (in_t4 (List.mem_of_getElem? (i := 9) rfl)) rfl
set_option maxRecDepth 20000 in
theorem qk_X10_397 : Cond.constantLong RX10 397 (1023) ∈ WL := wl_of (in_t4 (List.mem_of_getElem? (i := 10) rfl)) rfl
set_option maxRecDepth 20000 in
theorem qk_X10_399 : Cond.constantDouble RX10 399 (4611686018427387904) ∈ WL := wl_of (in_t4 (List.mem_of_getElem? (i := 11) rfl)) rfl
set_option maxRecDepth 20000 in
theorem qk_X10_401 : Cond.constantDouble RX10 401 (4841369599423283200) ∈ WL := wl_of (in_t4 (List.mem_of_getElem? (i := 12) rfl)) rfl
set_option maxRecDepth 20000 in
theorem qk_X10_403 : Cond.constantLong RX10 403 (-9223372036854775808) ∈ WL := wl_of (in_t4 (List.mem_of_getElem? (i := 13) rfl)) rfl
set_option maxRecDepth 20000 in
theorem qm_L_60 : Cond.methodLink RL 60 yX10_days ∈ WL := wl_of (in_t4 (List.mem_of_getElem? (i := 14) rfl)) rfl
set_option maxRecDepth 20000 in
theorem qi_X10_days : Cond.instanceMethod yX10_days ∈ WL := wl_of (in_t4 (List.mem_of_getElem? (i := 15) rfl)) rfl
set_option maxRecDepth 20000 in
theorem qs_X10_days : Cond.selects RX10 yX10_days yX10_days ∈ WL := wl_of (in_t4 (List.mem_of_getElem? (i := 16) rfl)) rfl
set_option maxRecDepth 20000 in
theorem qc_X10_days : Cond.code yX10_days cX10_days 4 (some FieldType.int) ∈ WL := wl_of (in_t4 (List.mem_of_getElem? (i := 17) rfl)) rfl
set_option maxRecDepth 20000 in
theorem qm_X10_181 : Cond.methodLink RX10 181 yX7_hasScheme ∈ WL := wl_of (in_t4 (List.mem_of_getElem? (i := 18) rfl)) rfl
set_option maxRecDepth 20000 in
theorem qi_X7_hasScheme : Cond.instanceMethod yX7_hasScheme ∈ WL := wl_of (in_t4 (List.mem_of_getElem? (i := 19) rfl)) rfl
set_option maxRecDepth 20000 in
theorem qs_X7_hasScheme : Cond.selects RX7 yX7_hasScheme yX7_hasScheme ∈ WL := wl_of (in_t4 (List.mem_of_getElem? (i := 20) rfl)) rfl
set_option maxRecDepth 20000 in
theorem qc_X7_hasScheme : Cond.code yX7_hasScheme cX7_hasScheme 1 (some FieldType.boolean) ∈ WL := wl_of (in_t4 (List.mem_of_getElem? (i := 21) rfl)) rfl
set_option maxRecDepth 20000 in
theorem qm_X10_185 : Cond.methodLink RX10 185 yX10_isDays ∈ WL := wl_of (in_t4 (List.mem_of_getElem? (i := 22) rfl)) rfl
set_option maxRecDepth 20000 in
theorem qt_X10_isDays : Cond.static yX10_isDays ∈ WL := wl_of (in_t4 (List.mem_of_getElem? (i := 23) rfl)) rfl
set_option maxRecDepth 20000 in
theorem qc_X10_isDays : Cond.code yX10_isDays cX10_isDays 1 (some FieldType.boolean) ∈ WL := wl_of (in_t4 (List.mem_of_getElem? (i := 24) rfl)) rfl
set_option maxRecDepth 20000 in
theorem qm_X10_188 : Cond.methodLink RX10 188 yX7_passDay ∈ WL := wl_of (in_t4 (List.mem_of_getElem? (i := 25) rfl)) rfl
set_option maxRecDepth 20000 in
theorem qi_X7_passDay : Cond.instanceMethod yX7_passDay ∈ WL := wl_of (in_t4 (List.mem_of_getElem? (i := 26) rfl)) rfl
set_option maxRecDepth 20000 in
theorem qs_X7_passDay : Cond.selects RX7 yX7_passDay yX7_passDay ∈ WL := wl_of (in_t4 (List.mem_of_getElem? (i := 27) rfl)) rfl
set_option maxRecDepth 20000 in
theorem qc_X7_passDay : Cond.code yX7_passDay cX7_passDay 3 (some FieldType.int) ∈ WL := wl_of (in_t4 (List.mem_of_getElem? (i := 28) rfl)) rfl
set_option maxRecDepth 20000 in
theorem qm_X7_170 : Cond.methodLink RX7 170 yX1_isOpen ∈ WL := wl_of (in_t4 (List.mem_of_getElem? (i := 29) rfl)) rfl
set_option maxRecDepth 20000 in
theorem qm_X7_176 : Cond.methodLink RX7 176 yX7_closeIntoPool ∈ WL := wl_of (in_t4 (List.mem_of_getElem? (i := 30) rfl)) rfl
set_option maxRecDepth 20000 in
theorem qm_X7_179 : Cond.methodLink RX7 179 yX7_turnYear ∈ WL := wl_of (in_t4 (List.mem_of_getElem? (i := 31) rfl)) rfl
set_option maxRecDepth 20000 in
theorem qi_X7_turnYear : Cond.instanceMethod yX7_turnYear ∈ WL := wl_of (in_t4 (List.mem_of_getElem? (i := 33) rfl)) rfl
set_option maxRecDepth 20000 in
theorem qc_X7_turnYear : Cond.code yX7_turnYear cX7_turnYear 2 (none : Option FieldType) ∈ WL := wl_of (in_t4 (List.mem_of_getElem? (i := 34) rfl)) rfl
set_option maxRecDepth 20000 in
theorem qm_X7_185 : Cond.methodLink RX7 185 yX5_growOlder ∈ WL := wl_of (in_t4 (List.mem_of_getElem? (i := 35) rfl)) rfl
set_option maxRecDepth 20000 in
theorem qi_X5_growOlder : Cond.instanceMethod yX5_growOlder ∈ WL := wl_of (in_t4 (List.mem_of_getElem? (i := 36) rfl)) rfl
set_option maxRecDepth 20000 in
theorem qs_X5_growOlder : Cond.selects RX5 yX5_growOlder yX5_growOlder ∈ WL := wl_of (in_t4 (List.mem_of_getElem? (i := 37) rfl)) rfl
set_option maxRecDepth 20000 in
theorem qc_X5_growOlder : Cond.code yX5_growOlder cX5_growOlder 3 (none : Option FieldType) ∈ WL := wl_of (in_t4 (List.mem_of_getElem? (i := 38) rfl)) rfl
set_option maxRecDepth 20000 in
theorem qm_X5_44 : Cond.methodLink RX5 44 yX5_putYear ∈ WL := wl_of (in_t4 (List.mem_of_getElem? (i := 39) rfl)) rfl
set_option maxRecDepth 20000 in
theorem qm_X7_182 : Cond.methodLink RX7 182 yX3_writeLog ∈ WL := wl_of (in_t4 (List.mem_of_getElem? (i := 40) rfl)) rfl
set_option maxRecDepth 20000 in
theorem qi_X3_writeLog : Cond.instanceMethod yX3_writeLog ∈ WL := wl_of (in_t4 (List.mem_of_getElem? (i := 41) rfl)) rfl
set_option maxRecDepth 20000 in
theorem qs_X3_writeLog : Cond.selects RX3 yX3_writeLog yX3_writeLog ∈ WL := wl_of (in_t4 (List.mem_of_getElem? (i := 42) rfl)) rfl
set_option maxRecDepth 20000 in
theorem qc_X3_writeLog : Cond.code yX3_writeLog cX3_writeLog 4 (none : Option FieldType) ∈ WL := wl_of (in_t4 (List.mem_of_getElem? (i := 43) rfl)) rfl
set_option maxRecDepth 20000 in
theorem qt_X10_logPlace : Cond.static yX10_logPlace ∈ WL := wl_of (in_t4 (List.mem_of_getElem? (i := 45) rfl)) rfl
set_option maxRecDepth 20000 in
theorem qc_X10_logPlace : Cond.code yX10_logPlace cX10_logPlace 3 (some FieldType.int) ∈ WL := wl_of (in_t4 (List.mem_of_getElem? (i := 46) rfl)) rfl
set_option maxRecDepth 20000 in
theorem qm_X3_47 : Cond.methodLink RX3 47 yX3_figure ∈ WL := wl_of (in_t4 (List.mem_of_getElem? (i := 49) rfl)) rfl
set_option maxRecDepth 20000 in
theorem qm_X3_51 : Cond.methodLink RX3 51 yJ9_min_7cf53 ∈ WL := wl_of (in_t4 (List.mem_of_getElem? (i := 50) rfl)) rfl
set_option maxRecDepth 20000 in
theorem qm_L_64 : Cond.methodLink RL 64 yX10_widen ∈ WL := wl_of (in_t4 (List.mem_of_getElem? (i := 51) rfl)) rfl
set_option maxRecDepth 20000 in
theorem qi_X10_widen : Cond.instanceMethod yX10_widen ∈ WL := wl_of (in_t4 (List.mem_of_getElem? (i := 52) rfl)) rfl
set_option maxRecDepth 20000 in
theorem qs_X10_widen : Cond.selects RX10 yX10_widen yX10_widen ∈ WL := wl_of (in_t4 (List.mem_of_getElem? (i := 53) rfl)) rfl
set_option maxRecDepth 20000 in
theorem qc_X10_widen : Cond.code yX10_widen cX10_widen 4 (some FieldType.int) ∈ WL := wl_of (in_t4 (List.mem_of_getElem? (i := 54) rfl)) rfl
set_option maxRecDepth 20000 in
theorem qm_X10_191 : Cond.methodLink RX10 191 yX7_hasOrigin ∈ WL := wl_of (in_t4 (List.mem_of_getElem? (i := 55) rfl)) rfl
set_option maxRecDepth 20000 in
theorem qm_L_68 : Cond.methodLink RL 68 yX10_set ∈ WL := wl_of (in_t4 (List.mem_of_getElem? (i := 56) rfl)) rfl
set_option maxRecDepth 20000 in
theorem qi_X10_set : Cond.instanceMethod yX10_set ∈ WL := wl_of (in_t4 (List.mem_of_getElem? (i := 57) rfl)) rfl
set_option maxRecDepth 20000 in
theorem qs_X10_set : Cond.selects RX10 yX10_set yX10_set ∈ WL := wl_of (in_t4 (List.mem_of_getElem? (i := 58) rfl)) rfl
set_option maxRecDepth 20000 in
theorem qc_X10_set : Cond.code yX10_set cX10_set 4 (some FieldType.int) ∈ WL := wl_of (in_t4 (List.mem_of_getElem? (i := 59) rfl)) rfl
set_option maxRecDepth 20000 in
theorem qm_X10_198 : Cond.methodLink RX10 198 yX10_isTold ∈ WL := wl_of (in_t4 (List.mem_of_getElem? (i := 60) rfl)) rfl
set_option maxRecDepth 20000 in
theorem qt_X10_isTold : Cond.static yX10_isTold ∈ WL := wl_of (in_t4 (List.mem_of_getElem? (i := 61) rfl)) rfl
set_option maxRecDepth 20000 in
theorem qc_X10_isTold : Cond.code yX10_isTold cX10_isTold 1 (some FieldType.boolean) ∈ WL := wl_of (in_t4 (List.mem_of_getElem? (i := 62) rfl)) rfl
set_option maxRecDepth 20000 in
theorem qf_X10_201 : Cond.fieldLink RX10 201 "QuotaLicences" "TOLD_LEAST" "[I" ∈ WL := wl_of (in_t4 (List.mem_of_getElem? (i := 63) rfl)) rfl
set_option maxRecDepth 20000 in
theorem qf_X10_204 : Cond.fieldLink RX10 204 "QuotaLicences" "TOLD_MOST" "[I" ∈ WL := wl_of (in_t4 (List.mem_of_getElem? (i := 64) rfl)) rfl
set_option maxRecDepth 20000 in
theorem qm_L_72 : Cond.methodLink RL 72 yX10_undo ∈ WL := wl_of (in_t4 (List.mem_of_getElem? (i := 65) rfl)) rfl
set_option maxRecDepth 20000 in
theorem qi_X10_undo : Cond.instanceMethod yX10_undo ∈ WL := wl_of (in_t4 (List.mem_of_getElem? (i := 66) rfl)) rfl
set_option maxRecDepth 20000 in
theorem qs_X10_undo : Cond.selects RX10 yX10_undo yX10_undo ∈ WL := wl_of (in_t4 (List.mem_of_getElem? (i := 67) rfl)) rfl
set_option maxRecDepth 20000 in
theorem qc_X10_undo : Cond.code yX10_undo cX10_undo 1 (some FieldType.int) ∈ WL := wl_of (in_t4 (List.mem_of_getElem? (i := 68) rfl)) rfl
set_option maxRecDepth 20000 in
theorem qm_X10_210 : Cond.methodLink RX10 210 yX0_takeBackInto ∈ WL := wl_of (in_t4 (List.mem_of_getElem? (i := 69) rfl)) rfl
set_option maxRecDepth 20000 in
theorem qi_X0_takeBackInto : Cond.instanceMethod yX0_takeBackInto ∈ WL := wl_of (in_t4 (List.mem_of_getElem? (i := 70) rfl)) rfl
set_option maxRecDepth 20000 in
theorem qs_X0_takeBackInto : Cond.selects RX0 yX0_takeBackInto yX0_takeBackInto ∈ WL := wl_of (in_t4 (List.mem_of_getElem? (i := 71) rfl)) rfl
set_option maxRecDepth 20000 in
theorem qc_X0_takeBackInto : Cond.code yX0_takeBackInto cX0_takeBackInto 4 (some FieldType.int) ∈ WL := wl_of (in_t4 (List.mem_of_getElem? (i := 72) rfl)) rfl
set_option maxRecDepth 20000 in
theorem qm_L_76 : Cond.methodLink RL 76 yX10_keep ∈ WL := wl_of (in_t4 (List.mem_of_getElem? (i := 73) rfl)) rfl
set_option maxRecDepth 20000 in
theorem qi_X10_keep : Cond.instanceMethod yX10_keep ∈ WL := wl_of (in_t4 (List.mem_of_getElem? (i := 74) rfl)) rfl
set_option maxRecDepth 20000 in
theorem qs_X10_keep : Cond.selects RX10 yX10_keep yX10_keep ∈ WL := wl_of (in_t4 (List.mem_of_getElem? (i := 75) rfl)) rfl
set_option maxRecDepth 20000 in
theorem qc_X10_keep : Cond.code yX10_keep cX10_keep 3 (some FieldType.int) ∈ WL := wl_of (in_t4 (List.mem_of_getElem? (i := 76) rfl)) rfl
set_option maxRecDepth 20000 in
theorem qm_X10_214 : Cond.methodLink RX10 214 yX7_copyFrom ∈ WL := wl_of (in_t4 (List.mem_of_getElem? (i := 77) rfl)) rfl
set_option maxRecDepth 20000 in
theorem qm_L_80 : Cond.methodLink RL 80 yX10_back ∈ WL := wl_of (in_t4 (List.mem_of_getElem? (i := 78) rfl)) rfl
set_option maxRecDepth 20000 in
theorem qi_X10_back : Cond.instanceMethod yX10_back ∈ WL := wl_of (in_t4 (List.mem_of_getElem? (i := 79) rfl)) rfl
set_option maxRecDepth 20000 in
theorem qs_X10_back : Cond.selects RX10 yX10_back yX10_back ∈ WL := wl_of (in_t4 (List.mem_of_getElem? (i := 80) rfl)) rfl
set_option maxRecDepth 20000 in
theorem qc_X10_back : Cond.code yX10_back cX10_back 3 (some FieldType.int) ∈ WL := wl_of (in_t4 (List.mem_of_getElem? (i := 81) rfl)) rfl
set_option maxRecDepth 20000 in
theorem qm_L_84 : Cond.methodLink RL 84 yX10_told ∈ WL := wl_of (in_t4 (List.mem_of_getElem? (i := 82) rfl)) rfl
set_option maxRecDepth 20000 in
theorem qi_X10_told : Cond.instanceMethod yX10_told ∈ WL := wl_of (in_t4 (List.mem_of_getElem? (i := 83) rfl)) rfl
set_option maxRecDepth 20000 in
theorem qs_X10_told : Cond.selects RX10 yX10_told yX10_told ∈ WL := wl_of (in_t4 (List.mem_of_getElem? (i := 84) rfl)) rfl
set_option maxRecDepth 20000 in
theorem qc_X10_told : Cond.code yX10_told cX10_told 2 (some FieldType.int) ∈ WL := wl_of (in_t4 (List.mem_of_getElem? (i := 85) rfl)) rfl
set_option maxRecDepth 20000 in
theorem qm_L_88 : Cond.methodLink RL 88 yX10_origin ∈ WL := wl_of (in_t4 (List.mem_of_getElem? (i := 86) rfl)) rfl
set_option maxRecDepth 20000 in
theorem qi_X10_origin : Cond.instanceMethod yX10_origin ∈ WL := wl_of (in_t4 (List.mem_of_getElem? (i := 87) rfl)) rfl
set_option maxRecDepth 20000 in
theorem qs_X10_origin : Cond.selects RX10 yX10_origin yX10_origin ∈ WL := wl_of (in_t4 (List.mem_of_getElem? (i := 88) rfl)) rfl
set_option maxRecDepth 20000 in
theorem qc_X10_origin : Cond.code yX10_origin cX10_origin 3 (some FieldType.int) ∈ WL := wl_of (in_t4 (List.mem_of_getElem? (i := 89) rfl)) rfl
set_option maxRecDepth 20000 in
theorem qm_X10_217 : Cond.methodLink RX10 217 yX3_figure ∈ WL := wl_of (in_t4 (List.mem_of_getElem? (i := 90) rfl)) rfl
set_option maxRecDepth 20000 in
theorem qm_L_92 : Cond.methodLink RL 92 yX10_past ∈ WL := wl_of (in_t4 (List.mem_of_getElem? (i := 91) rfl)) rfl
set_option maxRecDepth 20000 in
theorem qi_X10_past : Cond.instanceMethod yX10_past ∈ WL := wl_of (in_t4 (List.mem_of_getElem? (i := 92) rfl)) rfl
set_option maxRecDepth 20000 in
theorem qs_X10_past : Cond.selects RX10 yX10_past yX10_past ∈ WL := wl_of (in_t4 (List.mem_of_getElem? (i := 93) rfl)) rfl
set_option maxRecDepth 20000 in
theorem qc_X10_past : Cond.code yX10_past cX10_past 5 (some FieldType.int) ∈ WL := wl_of (in_t4 (List.mem_of_getElem? (i := 94) rfl)) rfl
set_option maxRecDepth 20000 in
theorem qm_X10_229 : Cond.methodLink RX10 229 yX5_inYear ∈ WL := wl_of (in_t4 (List.mem_of_getElem? (i := 95) rfl)) rfl
set_option maxRecDepth 20000 in
theorem qm_L_96 : Cond.methodLink RL 96 yX10_sort ∈ WL := wl_of (in_t4 (List.mem_of_getElem? (i := 96) rfl)) rfl
set_option maxRecDepth 20000 in
theorem qi_X10_sort : Cond.instanceMethod yX10_sort ∈ WL := wl_of (in_t4 (List.mem_of_getElem? (i := 97) rfl)) rfl
set_option maxRecDepth 20000 in
theorem qs_X10_sort : Cond.selects RX10 yX10_sort yX10_sort ∈ WL := wl_of (in_t4 (List.mem_of_getElem? (i := 98) rfl)) rfl
set_option maxRecDepth 20000 in
theorem qc_X10_sort : Cond.code yX10_sort cX10_sort 3 (some FieldType.int) ∈ WL := wl_of (in_t4 (List.mem_of_getElem? (i := 99) rfl)) rfl
set_option maxRecDepth 20000 in
theorem qm_L_100 : Cond.methodLink RL 100 yX10_mean ∈ WL := wl_of (in_t4 (List.mem_of_getElem? (i := 100) rfl)) rfl
set_option maxRecDepth 20000 in
theorem qi_X10_mean : Cond.instanceMethod yX10_mean ∈ WL := wl_of (in_t4 (List.mem_of_getElem? (i := 101) rfl)) rfl
set_option maxRecDepth 20000 in
theorem qs_X10_mean : Cond.selects RX10 yX10_mean yX10_mean ∈ WL := wl_of (in_t4 (List.mem_of_getElem? (i := 102) rfl)) rfl
set_option maxRecDepth 20000 in
theorem qc_X10_mean : Cond.code yX10_mean cX10_mean 3 (some FieldType.long) ∈ WL := wl_of (in_t4 (List.mem_of_getElem? (i := 103) rfl)) rfl
set_option maxRecDepth 20000 in
theorem qm_X10_235 : Cond.methodLink RX10 235 yX5_inOldYears ∈ WL := wl_of (in_t4 (List.mem_of_getElem? (i := 104) rfl)) rfl
set_option maxRecDepth 20000 in
theorem qk_X10_238 : Cond.constantDouble RX10 238 (4613937818241073152) ∈ WL := wl_of (in_t4 (List.mem_of_getElem? (i := 105) rfl)) rfl
set_option maxRecDepth 20000 in
theorem qm_L_105 : Cond.methodLink RL 105 yX10_share ∈ WL := wl_of (in_t4 (List.mem_of_getElem? (i := 106) rfl)) rfl
set_option maxRecDepth 20000 in
theorem qi_X10_share : Cond.instanceMethod yX10_share ∈ WL := wl_of (in_t4 (List.mem_of_getElem? (i := 107) rfl)) rfl
set_option maxRecDepth 20000 in
theorem qs_X10_share : Cond.selects RX10 yX10_share yX10_share ∈ WL := wl_of (in_t4 (List.mem_of_getElem? (i := 108) rfl)) rfl
set_option maxRecDepth 20000 in
theorem qc_X10_share : Cond.code yX10_share cX10_share 5 (some FieldType.int) ∈ WL := wl_of (in_t4 (List.mem_of_getElem? (i := 109) rfl)) rfl
set_option maxRecDepth 20000 in
theorem qm_L_109 : Cond.methodLink RL 109 yX10_licence ∈ WL := wl_of (in_t4 (List.mem_of_getElem? (i := 110) rfl)) rfl
set_option maxRecDepth 20000 in
theorem qi_X10_licence : Cond.instanceMethod yX10_licence ∈ WL := wl_of (in_t4 (List.mem_of_getElem? (i := 111) rfl)) rfl
set_option maxRecDepth 20000 in
theorem qs_X10_licence : Cond.selects RX10 yX10_licence yX10_licence ∈ WL := wl_of (in_t4 (List.mem_of_getElem? (i := 112) rfl)) rfl
set_option maxRecDepth 20000 in
theorem qc_X10_licence : Cond.code yX10_licence cX10_licence 4 (some FieldType.int) ∈ WL := wl_of (in_t4 (List.mem_of_getElem? (i := 113) rfl)) rfl
set_option maxRecDepth 20000 in
theorem qm_L_113 : Cond.methodLink RL 113 yX10_month ∈ WL := wl_of (in_t4 (List.mem_of_getElem? (i := 114) rfl)) rfl
set_option maxRecDepth 20000 in
theorem qi_X10_month : Cond.instanceMethod yX10_month ∈ WL := wl_of (in_t4 (List.mem_of_getElem? (i := 115) rfl)) rfl
set_option maxRecDepth 20000 in
theorem qs_X10_month : Cond.selects RX10 yX10_month yX10_month ∈ WL := wl_of (in_t4 (List.mem_of_getElem? (i := 116) rfl)) rfl
set_option maxRecDepth 20000 in
theorem qc_X10_month : Cond.code yX10_month cX10_month 3 (some FieldType.int) ∈ WL := wl_of (in_t4 (List.mem_of_getElem? (i := 117) rfl)) rfl
set_option maxRecDepth 20000 in
theorem qm_L_117 : Cond.methodLink RL 117 yX10_rate ∈ WL := wl_of (in_t4 (List.mem_of_getElem? (i := 118) rfl)) rfl
set_option maxRecDepth 20000 in
theorem qi_X10_rate : Cond.instanceMethod yX10_rate ∈ WL := wl_of (in_t4 (List.mem_of_getElem? (i := 119) rfl)) rfl
set_option maxRecDepth 20000 in
theorem qs_X10_rate : Cond.selects RX10 yX10_rate yX10_rate ∈ WL := wl_of (in_t4 (List.mem_of_getElem? (i := 120) rfl)) rfl
set_option maxRecDepth 20000 in
theorem qc_X10_rate : Cond.code yX10_rate cX10_rate 2 (some FieldType.long) ∈ WL := wl_of (in_t4 (List.mem_of_getElem? (i := 121) rfl)) rfl
set_option maxRecDepth 20000 in
theorem qm_X10_264 : Cond.methodLink RX10 264 yX1_rateOf ∈ WL := wl_of (in_t4 (List.mem_of_getElem? (i := 122) rfl)) rfl
set_option maxRecDepth 20000 in
theorem qi_X1_rateOf : Cond.instanceMethod yX1_rateOf ∈ WL := wl_of (in_t4 (List.mem_of_getElem? (i := 123) rfl)) rfl
set_option maxRecDepth 20000 in
theorem qs_X1_rateOf : Cond.selects RX1 yX1_rateOf yX1_rateOf ∈ WL := wl_of (in_t4 (List.mem_of_getElem? (i := 124) rfl)) rfl
set_option maxRecDepth 20000 in
theorem qc_X1_rateOf : Cond.code yX1_rateOf cX1_rateOf 5 (some FieldType.double) ∈ WL := wl_of (in_t4 (List.mem_of_getElem? (i := 125) rfl)) rfl
set_option maxRecDepth 20000 in
theorem qk_X1_76 : Cond.constantDouble RX1 76 (13830554455654793216) ∈ WL := wl_of (in_t4 (List.mem_of_getElem? (i := 126) rfl)) rfl
set_option maxRecDepth 20000 in
theorem qm_L_122 : Cond.methodLink RL 122 yX10_idle ∈ WL := wl_of (in_t4 (List.mem_of_getElem? (i := 127) rfl)) rfl
set_option maxRecDepth 20000 in
theorem qi_X10_idle : Cond.instanceMethod yX10_idle ∈ WL := wl_of (in_t4 (List.mem_of_getElem? (i := 128) rfl)) rfl
set_option maxRecDepth 20000 in
theorem qs_X10_idle : Cond.selects RX10 yX10_idle yX10_idle ∈ WL := wl_of (in_t4 (List.mem_of_getElem? (i := 129) rfl)) rfl
set_option maxRecDepth 20000 in
theorem qc_X10_idle : Cond.code yX10_idle cX10_idle 3 (some FieldType.int) ∈ WL := wl_of (in_t4 (List.mem_of_getElem? (i := 130) rfl)) rfl
set_option maxRecDepth 20000 in
theorem qm_X10_268 : Cond.methodLink RX10 268 yX7_isKeptOut ∈ WL := wl_of (in_t4 (List.mem_of_getElem? (i := 131) rfl)) rfl
set_option maxRecDepth 20000 in
theorem qm_L_126 : Cond.methodLink RL 126 yX10_owed ∈ WL := wl_of (in_t4 (List.mem_of_getElem? (i := 132) rfl)) rfl
set_option maxRecDepth 20000 in
theorem qi_X10_owed : Cond.instanceMethod yX10_owed ∈ WL := wl_of (in_t4 (List.mem_of_getElem? (i := 133) rfl)) rfl
set_option maxRecDepth 20000 in
theorem qs_X10_owed : Cond.selects RX10 yX10_owed yX10_owed ∈ WL := wl_of (in_t4 (List.mem_of_getElem? (i := 134) rfl)) rfl
set_option maxRecDepth 20000 in
theorem qc_X10_owed : Cond.code yX10_owed cX10_owed 2 (some FieldType.long) ∈ WL := wl_of (in_t4 (List.mem_of_getElem? (i := 135) rfl)) rfl
set_option maxRecDepth 20000 in
theorem qm_L_130 : Cond.methodLink RL 130 yX10_would ∈ WL := wl_of (in_t4 (List.mem_of_getElem? (i := 136) rfl)) rfl
set_option maxRecDepth 20000 in
theorem qi_X10_would : Cond.instanceMethod yX10_would ∈ WL := wl_of (in_t4 (List.mem_of_getElem? (i := 137) rfl)) rfl
set_option maxRecDepth 20000 in
theorem qs_X10_would : Cond.selects RX10 yX10_would yX10_would ∈ WL := wl_of (in_t4 (List.mem_of_getElem? (i := 138) rfl)) rfl
set_option maxRecDepth 20000 in
theorem qc_X10_would : Cond.code yX10_would cX10_would 4 (some FieldType.int) ∈ WL := wl_of (in_t4 (List.mem_of_getElem? (i := 139) rfl)) rfl
set_option maxRecDepth 20000 in
theorem qm_L_134 : Cond.methodLink RL 134 yX10_lapses ∈ WL := wl_of (in_t4 (List.mem_of_getElem? (i := 140) rfl)) rfl
set_option maxRecDepth 20000 in
theorem qi_X10_lapses : Cond.instanceMethod yX10_lapses ∈ WL := wl_of (in_t4 (List.mem_of_getElem? (i := 141) rfl)) rfl
set_option maxRecDepth 20000 in
theorem qs_X10_lapses : Cond.selects RX10 yX10_lapses yX10_lapses ∈ WL := wl_of (in_t4 (List.mem_of_getElem? (i := 142) rfl)) rfl
set_option maxRecDepth 20000 in
theorem qc_X10_lapses : Cond.code yX10_lapses cX10_lapses 5 (some FieldType.int) ∈ WL := wl_of (in_t4 (List.mem_of_getElem? (i := 143) rfl)) rfl
set_option maxRecDepth 20000 in
theorem qm_L_138 : Cond.methodLink RL 138 yX10_next ∈ WL := wl_of (in_t4 (List.mem_of_getElem? (i := 144) rfl)) rfl
set_option maxRecDepth 20000 in
theorem qi_X10_next : Cond.instanceMethod yX10_next ∈ WL := wl_of (in_t4 (List.mem_of_getElem? (i := 145) rfl)) rfl
set_option maxRecDepth 20000 in
theorem qs_X10_next : Cond.selects RX10 yX10_next yX10_next ∈ WL := wl_of (in_t4 (List.mem_of_getElem? (i := 146) rfl)) rfl
set_option maxRecDepth 20000 in
theorem qc_X10_next : Cond.code yX10_next cX10_next 4 (some FieldType.int) ∈ WL := wl_of (in_t4 (List.mem_of_getElem? (i := 147) rfl)) rfl
set_option maxRecDepth 20000 in
theorem qm_X10_275 : Cond.methodLink RX10 275 yX1_openOnes ∈ WL := wl_of (in_t4 (List.mem_of_getElem? (i := 148) rfl)) rfl
set_option maxRecDepth 20000 in
theorem qi_X1_openOnes : Cond.instanceMethod yX1_openOnes ∈ WL := wl_of (in_t4 (List.mem_of_getElem? (i := 149) rfl)) rfl
set_option maxRecDepth 20000 in
theorem qs_X1_openOnes : Cond.selects RX1 yX1_openOnes yX1_openOnes ∈ WL := wl_of (in_t4 (List.mem_of_getElem? (i := 150) rfl)) rfl
set_option maxRecDepth 20000 in
theorem qc_X1_openOnes : Cond.code yX1_openOnes cX1_openOnes 3 (some FieldType.int) ∈ WL := wl_of (in_t4 (List.mem_of_getElem? (i := 151) rfl)) rfl
set_option maxRecDepth 20000 in
theorem qm_X10_278 : Cond.methodLink RX10 278 yX1_openAhead ∈ WL := wl_of (in_t4 (List.mem_of_getElem? (i := 152) rfl)) rfl
set_option maxRecDepth 20000 in
theorem qi_X1_openAhead : Cond.instanceMethod yX1_openAhead ∈ WL := wl_of (in_t4 (List.mem_of_getElem? (i := 153) rfl)) rfl
set_option maxRecDepth 20000 in
theorem qs_X1_openAhead : Cond.selects RX1 yX1_openAhead yX1_openAhead ∈ WL := wl_of (in_t4 (List.mem_of_getElem? (i := 154) rfl)) rfl
set_option maxRecDepth 20000 in
theorem qc_X1_openAhead : Cond.code yX1_openAhead cX1_openAhead 5 (some FieldType.int) ∈ WL := wl_of (in_t4 (List.mem_of_getElem? (i := 155) rfl)) rfl
set_option maxRecDepth 20000 in
theorem qm_L_142 : Cond.methodLink RL 142 yX10_best ∈ WL := wl_of (in_t4 (List.mem_of_getElem? (i := 156) rfl)) rfl
set_option maxRecDepth 20000 in
theorem qi_X10_best : Cond.instanceMethod yX10_best ∈ WL := wl_of (in_t4 (List.mem_of_getElem? (i := 157) rfl)) rfl
set_option maxRecDepth 20000 in
theorem qs_X10_best : Cond.selects RX10 yX10_best yX10_best ∈ WL := wl_of (in_t4 (List.mem_of_getElem? (i := 158) rfl)) rfl
set_option maxRecDepth 20000 in
theorem qc_X10_best : Cond.code yX10_best cX10_best 8 (some FieldType.int) ∈ WL := wl_of (in_t4 (List.mem_of_getElem? (i := 159) rfl)) rfl
set_option maxRecDepth 20000 in
theorem qm_L_146 : Cond.methodLink RL 146 yX10_order ∈ WL := wl_of (in_t4 (List.mem_of_getElem? (i := 160) rfl)) rfl
set_option maxRecDepth 20000 in
theorem qi_X10_order : Cond.instanceMethod yX10_order ∈ WL := wl_of (in_t4 (List.mem_of_getElem? (i := 161) rfl)) rfl
set_option maxRecDepth 20000 in
theorem qs_X10_order : Cond.selects RX10 yX10_order yX10_order ∈ WL := wl_of (in_t4 (List.mem_of_getElem? (i := 162) rfl)) rfl
set_option maxRecDepth 20000 in
theorem qc_X10_order : Cond.code yX10_order cX10_order 3 (some FieldType.int) ∈ WL := wl_of (in_t4 (List.mem_of_getElem? (i := 163) rfl)) rfl
set_option maxRecDepth 20000 in
theorem qm_X10_284 : Cond.methodLink RX10 284 yX7_importersAhead ∈ WL := wl_of (in_t4 (List.mem_of_getElem? (i := 164) rfl)) rfl
set_option maxRecDepth 20000 in
theorem qi_X7_importersAhead : Cond.instanceMethod yX7_importersAhead ∈ WL := wl_of (in_t4 (List.mem_of_getElem? (i := 165) rfl)) rfl
set_option maxRecDepth 20000 in
theorem qs_X7_importersAhead : Cond.selects RX7 yX7_importersAhead yX7_importersAhead ∈ WL := wl_of (in_t4 (List.mem_of_getElem? (i := 166) rfl)) rfl
set_option maxRecDepth 20000 in
theorem qc_X7_importersAhead : Cond.code yX7_importersAhead cX7_importersAhead 6 (some FieldType.int) ∈ WL := wl_of (in_t4 (List.mem_of_getElem? (i := 167) rfl)) rfl
set_option maxRecDepth 20000 in
theorem qm_X7_253 : Cond.methodLink RX7 253 yX9_importedBy ∈ WL := wl_of (in_t4 (List.mem_of_getElem? (i := 168) rfl)) rfl
set_option maxRecDepth 20000 in
theorem qi_X9_importedBy : Cond.instanceMethod yX9_importedBy ∈ WL := wl_of (in_t4 (List.mem_of_getElem? (i := 169) rfl)) rfl
set_option maxRecDepth 20000 in
theorem qs_X9_importedBy : Cond.selects RX9 yX9_importedBy yX9_importedBy ∈ WL := wl_of (in_t4 (List.mem_of_getElem? (i := 170) rfl)) rfl
set_option maxRecDepth 20000 in
theorem qc_X9_importedBy : Cond.code yX9_importedBy cX9_importedBy 4 (some FieldType.int) ∈ WL := wl_of (in_t4 (List.mem_of_getElem? (i := 171) rfl)) rfl
set_option maxRecDepth 20000 in
theorem qm_L_150 : Cond.methodLink RL 150 yX10_focus ∈ WL := wl_of (in_t4 (List.mem_of_getElem? (i := 172) rfl)) rfl
set_option maxRecDepth 20000 in
theorem qi_X10_focus : Cond.instanceMethod yX10_focus ∈ WL := wl_of (in_t4 (List.mem_of_getElem? (i := 173) rfl)) rfl
set_option maxRecDepth 20000 in
theorem qs_X10_focus : Cond.selects RX10 yX10_focus yX10_focus ∈ WL := wl_of (in_t4 (List.mem_of_getElem? (i := 174) rfl)) rfl
set_option maxRecDepth 20000 in
theorem qc_X10_focus : Cond.code yX10_focus cX10_focus 8 (some FieldType.long) ∈ WL := wl_of (in_t4 (List.mem_of_getElem? (i := 175) rfl)) rfl
set_option maxRecDepth 20000 in
theorem qm_L_154 : Cond.methodLink RL 154 yX10_carry ∈ WL := wl_of (in_t4 (List.mem_of_getElem? (i := 176) rfl)) rfl
set_option maxRecDepth 20000 in
theorem qi_X10_carry : Cond.instanceMethod yX10_carry ∈ WL := wl_of (in_t4 (List.mem_of_getElem? (i := 177) rfl)) rfl
set_option maxRecDepth 20000 in
theorem qs_X10_carry : Cond.selects RX10 yX10_carry yX10_carry ∈ WL := wl_of (in_t4 (List.mem_of_getElem? (i := 178) rfl)) rfl
set_option maxRecDepth 20000 in
theorem qc_X10_carry : Cond.code yX10_carry cX10_carry 3 (some FieldType.int) ∈ WL := wl_of (in_t4 (List.mem_of_getElem? (i := 179) rfl)) rfl
set_option maxRecDepth 20000 in
theorem qm_X10_290 : Cond.methodLink RX10 290 yX7_leftIn ∈ WL := wl_of (in_t4 (List.mem_of_getElem? (i := 180) rfl)) rfl
set_option maxRecDepth 20000 in
theorem qm_L_158 : Cond.methodLink RL 158 yX10_window ∈ WL := wl_of (in_t4 (List.mem_of_getElem? (i := 181) rfl)) rfl
set_option maxRecDepth 20000 in
theorem qi_X10_window : Cond.instanceMethod yX10_window ∈ WL := wl_of (in_t4 (List.mem_of_getElem? (i := 182) rfl)) rfl
set_option maxRecDepth 20000 in
theorem qs_X10_window : Cond.selects RX10 yX10_window yX10_window ∈ WL := wl_of (in_t4 (List.mem_of_getElem? (i := 183) rfl)) rfl
set_option maxRecDepth 20000 in
theorem qc_X10_window : Cond.code yX10_window cX10_window 3 (some FieldType.int) ∈ WL := wl_of (in_t4 (List.mem_of_getElem? (i := 184) rfl)) rfl
set_option maxRecDepth 20000 in
theorem qm_X10_293 : Cond.methodLink RX10 293 yX7_takenIn ∈ WL := wl_of (in_t4 (List.mem_of_getElem? (i := 185) rfl)) rfl
set_option maxRecDepth 20000 in
theorem qi_X7_takenIn : Cond.instanceMethod yX7_takenIn ∈ WL := wl_of (in_t4 (List.mem_of_getElem? (i := 186) rfl)) rfl
set_option maxRecDepth 20000 in
theorem qs_X7_takenIn : Cond.selects RX7 yX7_takenIn yX7_takenIn ∈ WL := wl_of (in_t4 (List.mem_of_getElem? (i := 187) rfl)) rfl
set_option maxRecDepth 20000 in
theorem qc_X7_takenIn : Cond.code yX7_takenIn cX7_takenIn 4 (some FieldType.int) ∈ WL := wl_of (in_t4 (List.mem_of_getElem? (i := 188) rfl)) rfl
set_option maxRecDepth 20000 in
theorem qm_L_162 : Cond.methodLink RL 162 yX10_shareAt ∈ WL := wl_of (in_t4 (List.mem_of_getElem? (i := 189) rfl)) rfl
set_option maxRecDepth 20000 in
theorem qi_X10_shareAt : Cond.instanceMethod yX10_shareAt ∈ WL := wl_of (in_t4 (List.mem_of_getElem? (i := 190) rfl)) rfl
set_option maxRecDepth 20000 in
theorem qs_X10_shareAt : Cond.selects RX10 yX10_shareAt yX10_shareAt ∈ WL := wl_of (in_t4 (List.mem_of_getElem? (i := 191) rfl)) rfl
set_option maxRecDepth 20000 in
theorem qc_X10_shareAt : Cond.code yX10_shareAt cX10_shareAt 4 (some FieldType.int) ∈ WL := wl_of (in_t4 (List.mem_of_getElem? (i := 192) rfl)) rfl
set_option maxRecDepth 20000 in
theorem qm_X10_296 : Cond.methodLink RX10 296 yX7_shareBy ∈ WL := wl_of (in_t4 (List.mem_of_getElem? (i := 193) rfl)) rfl
set_option maxRecDepth 20000 in
theorem qm_L_166 : Cond.methodLink RL 166 yX10_speed ∈ WL := wl_of (in_t4 (List.mem_of_getElem? (i := 194) rfl)) rfl
set_option maxRecDepth 20000 in
theorem qi_X10_speed : Cond.instanceMethod yX10_speed ∈ WL := wl_of (in_t4 (List.mem_of_getElem? (i := 195) rfl)) rfl
set_option maxRecDepth 20000 in
theorem qs_X10_speed : Cond.selects RX10 yX10_speed yX10_speed ∈ WL := wl_of (in_t4 (List.mem_of_getElem? (i := 196) rfl)) rfl
set_option maxRecDepth 20000 in
theorem qc_X10_speed : Cond.code yX10_speed cX10_speed 3 (some FieldType.long) ∈ WL := wl_of (in_t4 (List.mem_of_getElem? (i := 197) rfl)) rfl
set_option maxRecDepth 20000 in
theorem qk_X10_302 : Cond.constantDouble RX10 302 (13830554455654793216) ∈ WL := wl_of (in_t4 (List.mem_of_getElem? (i := 198) rfl)) rfl
set_option maxRecDepth 20000 in
theorem qm_L_170 : Cond.methodLink RL 170 yX10_fastest ∈ WL := wl_of (in_t4 (List.mem_of_getElem? (i := 199) rfl)) rfl
set_option maxRecDepth 20000 in
theorem qi_X10_fastest : Cond.instanceMethod yX10_fastest ∈ WL := wl_of (in_t4 (List.mem_of_getElem? (i := 200) rfl)) rfl
set_option maxRecDepth 20000 in
theorem qs_X10_fastest : Cond.selects RX10 yX10_fastest yX10_fastest ∈ WL := wl_of (in_t4 (List.mem_of_getElem? (i := 201) rfl)) rfl
set_option maxRecDepth 20000 in
theorem qc_X10_fastest : Cond.code yX10_fastest cX10_fastest 12 (some FieldType.int) ∈ WL := wl_of (in_t4 (List.mem_of_getElem? (i := 202) rfl)) rfl
set_option maxRecDepth 20000 in
theorem qm_X10_304 : Cond.methodLink RX10 304 yX1_usedBy ∈ WL := wl_of (in_t4 (List.mem_of_getElem? (i := 203) rfl)) rfl
set_option maxRecDepth 20000 in
theorem qi_X1_usedBy : Cond.instanceMethod yX1_usedBy ∈ WL := wl_of (in_t4 (List.mem_of_getElem? (i := 204) rfl)) rfl
set_option maxRecDepth 20000 in
theorem qs_X1_usedBy : Cond.selects RX1 yX1_usedBy yX1_usedBy ∈ WL := wl_of (in_t4 (List.mem_of_getElem? (i := 205) rfl)) rfl
set_option maxRecDepth 20000 in
theorem qc_X1_usedBy : Cond.code yX1_usedBy cX1_usedBy 5 (some FieldType.int) ∈ WL := wl_of (in_t4 (List.mem_of_getElem? (i := 206) rfl)) rfl
set_option maxRecDepth 20000 in
theorem qm_X10_307 : Cond.methodLink RX10 307 yX1_waitedBy ∈ WL := wl_of (in_t4 (List.mem_of_getElem? (i := 207) rfl)) rfl
set_option maxRecDepth 20000 in
theorem qi_X1_waitedBy : Cond.instanceMethod yX1_waitedBy ∈ WL := wl_of (in_t4 (List.mem_of_getElem? (i := 208) rfl)) rfl
set_option maxRecDepth 20000 in
theorem qs_X1_waitedBy : Cond.selects RX1 yX1_waitedBy yX1_waitedBy ∈ WL := wl_of (in_t4 (List.mem_of_getElem? (i := 209) rfl)) rfl
set_option maxRecDepth 20000 in
theorem qc_X1_waitedBy : Cond.code yX1_waitedBy cX1_waitedBy 5 (some FieldType.int) ∈ WL := wl_of (in_t4 (List.mem_of_getElem? (i := 210) rfl)) rfl
set_option maxRecDepth 20000 in
theorem qm_L_174 : Cond.methodLink RL 174 yX10_log ∈ WL := wl_of (in_t4 (List.mem_of_getElem? (i := 211) rfl)) rfl
set_option maxRecDepth 20000 in
theorem qi_X10_log : Cond.instanceMethod yX10_log ∈ WL := wl_of (in_t4 (List.mem_of_getElem? (i := 212) rfl)) rfl
set_option maxRecDepth 20000 in
theorem qs_X10_log : Cond.selects RX10 yX10_log yX10_log ∈ WL := wl_of (in_t4 (List.mem_of_getElem? (i := 213) rfl)) rfl
set_option maxRecDepth 20000 in
theorem qc_X10_log : Cond.code yX10_log cX10_log 4 (some FieldType.int) ∈ WL := wl_of (in_t4 (List.mem_of_getElem? (i := 214) rfl)) rfl
set_option maxRecDepth 20000 in
theorem qm_X10_316 : Cond.methodLink RX10 316 yX10_logPlace ∈ WL := wl_of (in_t4 (List.mem_of_getElem? (i := 215) rfl)) rfl
set_option maxRecDepth 20000 in
theorem qm_L_178 : Cond.methodLink RL 178 yX10_risk ∈ WL := wl_of (in_t4 (List.mem_of_getElem? (i := 216) rfl)) rfl
set_option maxRecDepth 20000 in
theorem qi_X10_risk : Cond.instanceMethod yX10_risk ∈ WL := wl_of (in_t4 (List.mem_of_getElem? (i := 217) rfl)) rfl
set_option maxRecDepth 20000 in
theorem qs_X10_risk : Cond.selects RX10 yX10_risk yX10_risk ∈ WL := wl_of (in_t4 (List.mem_of_getElem? (i := 218) rfl)) rfl
set_option maxRecDepth 20000 in
theorem qc_X10_risk : Cond.code yX10_risk cX10_risk 4 (some FieldType.int) ∈ WL := wl_of (in_t4 (List.mem_of_getElem? (i := 219) rfl)) rfl
set_option maxRecDepth 20000 in
theorem qm_X10_319 : Cond.methodLink RX10 319 yX7_isIdle ∈ WL := wl_of (in_t4 (List.mem_of_getElem? (i := 220) rfl)) rfl
set_option maxRecDepth 20000 in
theorem qm_L_182 : Cond.methodLink RL 182 yX10_lacks ∈ WL := wl_of (in_t4 (List.mem_of_getElem? (i := 221) rfl)) rfl
set_option maxRecDepth 20000 in
theorem qi_X10_lacks : Cond.instanceMethod yX10_lacks ∈ WL := wl_of (in_t4 (List.mem_of_getElem? (i := 222) rfl)) rfl
set_option maxRecDepth 20000 in
theorem qs_X10_lacks : Cond.selects RX10 yX10_lacks yX10_lacks ∈ WL := wl_of (in_t4 (List.mem_of_getElem? (i := 223) rfl)) rfl
set_option maxRecDepth 20000 in
theorem qc_X10_lacks : Cond.code yX10_lacks cX10_lacks 7 (some FieldType.int) ∈ WL := wl_of (in_t4 (List.mem_of_getElem? (i := 224) rfl)) rfl
set_option maxRecDepth 20000 in
theorem qm_X10_322 : Cond.methodLink RX10 322 yX1_isFor ∈ WL := wl_of (in_t4 (List.mem_of_getElem? (i := 225) rfl)) rfl
set_option maxRecDepth 20000 in
theorem qm_X10_326 : Cond.methodLink RX10 326 yJ9_max_7cf53 ∈ WL := wl_of (in_t4 (List.mem_of_getElem? (i := 226) rfl)) rfl
set_option maxRecDepth 20000 in
theorem qt_J9_max_7cf53 : Cond.static yJ9_max_7cf53 ∈ WL := wl_of (in_t4 (List.mem_of_getElem? (i := 227) rfl)) rfl
set_option maxRecDepth 20000 in
theorem qc_J9_max_7cf53 : Cond.code yJ9_max_7cf53 cJ9_max_7cf53 2 (some FieldType.int) ∈ WL := wl_of (in_t4 (List.mem_of_getElem? (i := 228) rfl)) rfl
set_option maxRecDepth 20000 in
theorem qm_L_186 : Cond.methodLink RL 186 yX10_pace ∈ WL := wl_of (in_t4 (List.mem_of_getElem? (i := 229) rfl)) rfl
set_option maxRecDepth 20000 in
theorem qi_X10_pace : Cond.instanceMethod yX10_pace ∈ WL := wl_of (in_t4 (List.mem_of_getElem? (i := 230) rfl)) rfl
set_option maxRecDepth 20000 in
theorem qs_X10_pace : Cond.selects RX10 yX10_pace yX10_pace ∈ WL := wl_of (in_t4 (List.mem_of_getElem? (i := 231) rfl)) rfl
set_option maxRecDepth 20000 in
theorem qc_X10_pace : Cond.code yX10_pace cX10_pace 3 (some FieldType.int) ∈ WL := wl_of (in_t4 (List.mem_of_getElem? (i := 232) rfl)) rfl
set_option maxRecDepth 20000 in
theorem qm_X10_331 : Cond.methodLink RX10 331 yX9_importedBy ∈ WL := wl_of (in_t4 (List.mem_of_getElem? (i := 233) rfl)) rfl
set_option maxRecDepth 20000 in
theorem qm_X10_334 : Cond.methodLink RX10 334 yX10_bitsOfFloat ∈ WL := wl_of (in_t4 (List.mem_of_getElem? (i := 234) rfl)) rfl
set_option maxRecDepth 20000 in
theorem qt_X10_bitsOfFloat : Cond.static yX10_bitsOfFloat ∈ WL := wl_of (in_t4 (List.mem_of_getElem? (i := 235) rfl)) rfl
set_option maxRecDepth 20000 in
theorem qc_X10_bitsOfFloat : Cond.code yX10_bitsOfFloat cX10_bitsOfFloat 4 (some FieldType.int) ∈ WL := wl_of (in_t4 (List.mem_of_getElem? (i := 236) rfl)) rfl
set_option maxRecDepth 20000 in
theorem qk_X10_405 : Cond.constantLong RX10 405 (4503599627370495) ∈ WL := wl_of (in_t4 (List.mem_of_getElem? (i := 237) rfl)) rfl
set_option maxRecDepth 20000 in
theorem qm_L_190 : Cond.methodLink RL 190 yX10_peak ∈ WL := wl_of (in_t4 (List.mem_of_getElem? (i := 238) rfl)) rfl
set_option maxRecDepth 20000 in
theorem qi_X10_peak : Cond.instanceMethod yX10_peak ∈ WL := wl_of (in_t4 (List.mem_of_getElem? (i := 239) rfl)) rfl
set_option maxRecDepth 20000 in
theorem qs_X10_peak : Cond.selects RX10 yX10_peak yX10_peak ∈ WL := wl_of (in_t5 (List.mem_of_getElem? (i := 0) rfl)) rfl
set_option maxRecDepth 20000 in
theorem qc_X10_peak : Cond.code yX10_peak cX10_peak 8 (some FieldType.int) ∈ WL := wl_of (in_t5 (List.mem_of_getElem? (i := 1) rfl)) rfl
set_option maxRecDepth 20000 in
theorem qm_X10_338 : Cond.methodLink RX10 338 yX9_importedOf ∈ WL := wl_of (in_t5 (List.mem_of_getElem? (i := 2) rfl)) rfl
set_option maxRecDepth 20000 in
theorem qi_X9_importedOf : Cond.instanceMethod yX9_importedOf ∈ WL := wl_of (in_t5 (List.mem_of_getElem? (i := 3) rfl)) rfl
set_option maxRecDepth 20000 in
theorem qs_X9_importedOf : Cond.selects RX9 yX9_importedOf yX9_importedOf ∈ WL := wl_of (in_t5 (List.mem_of_getElem? (i := 4) rfl)) rfl
set_option maxRecDepth 20000 in
theorem qc_X9_importedOf : Cond.code yX9_importedOf cX9_importedOf 6 (some FieldType.int) ∈ WL := wl_of (in_t5 (List.mem_of_getElem? (i := 5) rfl)) rfl
set_option maxRecDepth 20000 in
theorem qm_L_194 : Cond.methodLink RL 194 yX10_even ∈ WL := wl_of (in_t5 (List.mem_of_getElem? (i := 6) rfl)) rfl
set_option maxRecDepth 20000 in
theorem qi_X10_even : Cond.instanceMethod yX10_even ∈ WL := wl_of (in_t5 (List.mem_of_getElem? (i := 7) rfl)) rfl
set_option maxRecDepth 20000 in
theorem qs_X10_even : Cond.selects RX10 yX10_even yX10_even ∈ WL := wl_of (in_t5 (List.mem_of_getElem? (i := 8) rfl)) rfl
set_option maxRecDepth 20000 in
theorem qc_X10_even : Cond.code yX10_even cX10_even 7 (some FieldType.int) ∈ WL := wl_of (in_t5 (List.mem_of_getElem? (i := 9) rfl)) rfl
set_option maxRecDepth 20000 in
theorem qm_X10_341 : Cond.methodLink RX10 341 yJ9_min_7cf53 ∈ WL := wl_of (in_t5 (List.mem_of_getElem? (i := 10) rfl)) rfl
set_option maxRecDepth 20000 in
theorem qm_L_198 : Cond.methodLink RL 198 yX10_future ∈ WL := wl_of (in_t5 (List.mem_of_getElem? (i := 11) rfl)) rfl
set_option maxRecDepth 20000 in
theorem qi_X10_future : Cond.instanceMethod yX10_future ∈ WL := wl_of (in_t5 (List.mem_of_getElem? (i := 12) rfl)) rfl
set_option maxRecDepth 20000 in
theorem qs_X10_future : Cond.selects RX10 yX10_future yX10_future ∈ WL := wl_of (in_t5 (List.mem_of_getElem? (i := 13) rfl)) rfl
set_option maxRecDepth 20000 in
theorem qc_X10_future : Cond.code yX10_future cX10_future 3 (some FieldType.int) ∈ WL := wl_of (in_t5 (List.mem_of_getElem? (i := 14) rfl)) rfl
set_option maxRecDepth 20000 in
theorem qm_X10_344 : Cond.methodLink RX10 344 yX7_shareNextYear ∈ WL := wl_of (in_t5 (List.mem_of_getElem? (i := 15) rfl)) rfl
set_option maxRecDepth 20000 in
theorem qi_X7_shareNextYear : Cond.instanceMethod yX7_shareNextYear ∈ WL := wl_of (in_t5 (List.mem_of_getElem? (i := 16) rfl)) rfl
set_option maxRecDepth 20000 in
theorem qs_X7_shareNextYear : Cond.selects RX7 yX7_shareNextYear yX7_shareNextYear ∈ WL := wl_of (in_t5 (List.mem_of_getElem? (i := 17) rfl)) rfl
set_option maxRecDepth 20000 in
theorem qc_X7_shareNextYear : Cond.code yX7_shareNextYear cX7_shareNextYear 6 (some FieldType.int) ∈ WL := wl_of (in_t5 (List.mem_of_getElem? (i := 18) rfl)) rfl
set_option maxRecDepth 20000 in
theorem qm_X7_158 : Cond.methodLink RX7 158 yX7_countsNextYear ∈ WL := wl_of (in_t5 (List.mem_of_getElem? (i := 19) rfl)) rfl
set_option maxRecDepth 20000 in
theorem qi_X7_countsNextYear : Cond.instanceMethod yX7_countsNextYear ∈ WL := wl_of (in_t5 (List.mem_of_getElem? (i := 21) rfl)) rfl
set_option maxRecDepth 20000 in
theorem qc_X7_countsNextYear : Cond.code yX7_countsNextYear cX7_countsNextYear 6 (some FieldType.int) ∈ WL := wl_of (in_t5 (List.mem_of_getElem? (i := 22) rfl)) rfl
set_option maxRecDepth 20000 in
theorem qm_X7_164 : Cond.methodLink RX7 164 yX5_inYear ∈ WL := wl_of (in_t5 (List.mem_of_getElem? (i := 23) rfl)) rfl
set_option maxRecDepth 20000 in
theorem qm_L_202 : Cond.methodLink RL 202 yX10_likely ∈ WL := wl_of (in_t5 (List.mem_of_getElem? (i := 24) rfl)) rfl
set_option maxRecDepth 20000 in
theorem qi_X10_likely : Cond.instanceMethod yX10_likely ∈ WL := wl_of (in_t5 (List.mem_of_getElem? (i := 25) rfl)) rfl
set_option maxRecDepth 20000 in
theorem qs_X10_likely : Cond.selects RX10 yX10_likely yX10_likely ∈ WL := wl_of (in_t5 (List.mem_of_getElem? (i := 26) rfl)) rfl
set_option maxRecDepth 20000 in
theorem qc_X10_likely : Cond.code yX10_likely cX10_likely 8 (some FieldType.long) ∈ WL := wl_of (in_t5 (List.mem_of_getElem? (i := 27) rfl)) rfl
set_option maxRecDepth 20000 in
theorem qm_L_206 : Cond.methodLink RL 206 yX10_root ∈ WL := wl_of (in_t5 (List.mem_of_getElem? (i := 28) rfl)) rfl
set_option maxRecDepth 20000 in
theorem qi_X10_root : Cond.instanceMethod yX10_root ∈ WL := wl_of (in_t5 (List.mem_of_getElem? (i := 29) rfl)) rfl
set_option maxRecDepth 20000 in
theorem qs_X10_root : Cond.selects RX10 yX10_root yX10_root ∈ WL := wl_of (in_t5 (List.mem_of_getElem? (i := 30) rfl)) rfl
set_option maxRecDepth 20000 in
theorem qc_X10_root : Cond.code yX10_root cX10_root 6 (some FieldType.int) ∈ WL := wl_of (in_t5 (List.mem_of_getElem? (i := 31) rfl)) rfl
set_option maxRecDepth 20000 in
theorem qm_L_210 : Cond.methodLink RL 210 yX10_median ∈ WL := wl_of (in_t5 (List.mem_of_getElem? (i := 32) rfl)) rfl
set_option maxRecDepth 20000 in
theorem qi_X10_median : Cond.instanceMethod yX10_median ∈ WL := wl_of (in_t5 (List.mem_of_getElem? (i := 33) rfl)) rfl
set_option maxRecDepth 20000 in
theorem qs_X10_median : Cond.selects RX10 yX10_median yX10_median ∈ WL := wl_of (in_t5 (List.mem_of_getElem? (i := 34) rfl)) rfl
set_option maxRecDepth 20000 in
theorem qc_X10_median : Cond.code yX10_median cX10_median 5 (some FieldType.int) ∈ WL := wl_of (in_t5 (List.mem_of_getElem? (i := 35) rfl)) rfl
set_option maxRecDepth 20000 in
theorem qm_X10_350 : Cond.methodLink RX10 350 yX7_lesserAhead ∈ WL := wl_of (in_t5 (List.mem_of_getElem? (i := 36) rfl)) rfl
set_option maxRecDepth 20000 in
theorem qi_X7_lesserAhead : Cond.instanceMethod yX7_lesserAhead ∈ WL := wl_of (in_t5 (List.mem_of_getElem? (i := 37) rfl)) rfl
set_option maxRecDepth 20000 in
theorem qs_X7_lesserAhead : Cond.selects RX7 yX7_lesserAhead yX7_lesserAhead ∈ WL := wl_of (in_t5 (List.mem_of_getElem? (i := 38) rfl)) rfl
set_option maxRecDepth 20000 in
theorem qc_X7_lesserAhead : Cond.code yX7_lesserAhead cX7_lesserAhead 9 (some FieldType.int) ∈ WL := wl_of (in_t5 (List.mem_of_getElem? (i := 39) rfl)) rfl
set_option maxRecDepth 20000 in
theorem qm_L_214 : Cond.methodLink RL 214 yX10_rush ∈ WL := wl_of (in_t5 (List.mem_of_getElem? (i := 40) rfl)) rfl
set_option maxRecDepth 20000 in
theorem qi_X10_rush : Cond.instanceMethod yX10_rush ∈ WL := wl_of (in_t5 (List.mem_of_getElem? (i := 41) rfl)) rfl
set_option maxRecDepth 20000 in
theorem qs_X10_rush : Cond.selects RX10 yX10_rush yX10_rush ∈ WL := wl_of (in_t5 (List.mem_of_getElem? (i := 42) rfl)) rfl
set_option maxRecDepth 20000 in
theorem qc_X10_rush : Cond.code yX10_rush cX10_rush 8 (some FieldType.int) ∈ WL := wl_of (in_t5 (List.mem_of_getElem? (i := 43) rfl)) rfl
set_option maxRecDepth 20000 in
theorem qm_X10_353 : Cond.methodLink RX10 353 yX7_offerOf ∈ WL := wl_of (in_t5 (List.mem_of_getElem? (i := 44) rfl)) rfl
set_option maxRecDepth 20000 in
theorem qm_L_218 : Cond.methodLink RL 218 yX10_stood ∈ WL := wl_of (in_t5 (List.mem_of_getElem? (i := 45) rfl)) rfl
set_option maxRecDepth 20000 in
theorem qi_X10_stood : Cond.instanceMethod yX10_stood ∈ WL := wl_of (in_t5 (List.mem_of_getElem? (i := 46) rfl)) rfl
set_option maxRecDepth 20000 in
theorem qs_X10_stood : Cond.selects RX10 yX10_stood yX10_stood ∈ WL := wl_of (in_t5 (List.mem_of_getElem? (i := 47) rfl)) rfl
set_option maxRecDepth 20000 in
theorem qc_X10_stood : Cond.code yX10_stood cX10_stood 6 (some FieldType.int) ∈ WL := wl_of (in_t5 (List.mem_of_getElem? (i := 48) rfl)) rfl
set_option maxRecDepth 20000 in
theorem qm_X10_356 : Cond.methodLink RX10 356 yX1_wasOpenAfter ∈ WL := wl_of (in_t5 (List.mem_of_getElem? (i := 49) rfl)) rfl
set_option maxRecDepth 20000 in
theorem qi_X1_wasOpenAfter : Cond.instanceMethod yX1_wasOpenAfter ∈ WL := wl_of (in_t5 (List.mem_of_getElem? (i := 50) rfl)) rfl
set_option maxRecDepth 20000 in
theorem qs_X1_wasOpenAfter : Cond.selects RX1 yX1_wasOpenAfter yX1_wasOpenAfter ∈ WL := wl_of (in_t5 (List.mem_of_getElem? (i := 51) rfl)) rfl
set_option maxRecDepth 20000 in
theorem qc_X1_wasOpenAfter : Cond.code yX1_wasOpenAfter cX1_wasOpenAfter 3 (some FieldType.boolean) ∈ WL := wl_of (in_t5 (List.mem_of_getElem? (i := 52) rfl)) rfl
set_option maxRecDepth 20000 in
theorem qm_L_222 : Cond.methodLink RL 222 yX10_owing ∈ WL := wl_of (in_t5 (List.mem_of_getElem? (i := 53) rfl)) rfl
set_option maxRecDepth 20000 in
theorem qi_X10_owing : Cond.instanceMethod yX10_owing ∈ WL := wl_of (in_t5 (List.mem_of_getElem? (i := 54) rfl)) rfl
set_option maxRecDepth 20000 in
theorem qs_X10_owing : Cond.selects RX10 yX10_owing yX10_owing ∈ WL := wl_of (in_t5 (List.mem_of_getElem? (i := 55) rfl)) rfl
set_option maxRecDepth 20000 in
theorem qc_X10_owing : Cond.code yX10_owing cX10_owing 4 (some FieldType.int) ∈ WL := wl_of (in_t5 (List.mem_of_getElem? (i := 56) rfl)) rfl
set_option maxRecDepth 20000 in
theorem qm_X10_359 : Cond.methodLink RX10 359 yX7_neededFor ∈ WL := wl_of (in_t5 (List.mem_of_getElem? (i := 57) rfl)) rfl
set_option maxRecDepth 20000 in
theorem qm_L_226 : Cond.methodLink RL 226 yX10_holds ∈ WL := wl_of (in_t5 (List.mem_of_getElem? (i := 58) rfl)) rfl
set_option maxRecDepth 20000 in
theorem qi_X10_holds : Cond.instanceMethod yX10_holds ∈ WL := wl_of (in_t5 (List.mem_of_getElem? (i := 59) rfl)) rfl
set_option maxRecDepth 20000 in
theorem qs_X10_holds : Cond.selects RX10 yX10_holds yX10_holds ∈ WL := wl_of (in_t5 (List.mem_of_getElem? (i := 60) rfl)) rfl
set_option maxRecDepth 20000 in
theorem qc_X10_holds : Cond.code yX10_holds cX10_holds 3 (some FieldType.int) ∈ WL := wl_of (in_t5 (List.mem_of_getElem? (i := 61) rfl)) rfl
set_option maxRecDepth 20000 in
theorem qm_X10_362 : Cond.methodLink RX10 362 yX1_openOnesOf ∈ WL := wl_of (in_t5 (List.mem_of_getElem? (i := 62) rfl)) rfl
set_option maxRecDepth 20000 in
theorem qi_X1_openOnesOf : Cond.instanceMethod yX1_openOnesOf ∈ WL := wl_of (in_t5 (List.mem_of_getElem? (i := 63) rfl)) rfl
set_option maxRecDepth 20000 in
theorem qs_X1_openOnesOf : Cond.selects RX1 yX1_openOnesOf yX1_openOnesOf ∈ WL := wl_of (in_t5 (List.mem_of_getElem? (i := 64) rfl)) rfl
set_option maxRecDepth 20000 in
theorem qc_X1_openOnesOf : Cond.code yX1_openOnesOf cX1_openOnesOf 4 (some FieldType.int) ∈ WL := wl_of (in_t5 (List.mem_of_getElem? (i := 65) rfl)) rfl
set_option maxRecDepth 20000 in
theorem qm_X10_365 : Cond.methodLink RX10 365 yX1_remainsOf ∈ WL := wl_of (in_t5 (List.mem_of_getElem? (i := 66) rfl)) rfl
set_option maxRecDepth 20000 in
theorem qi_X1_remainsOf : Cond.instanceMethod yX1_remainsOf ∈ WL := wl_of (in_t5 (List.mem_of_getElem? (i := 67) rfl)) rfl
set_option maxRecDepth 20000 in
theorem qs_X1_remainsOf : Cond.selects RX1 yX1_remainsOf yX1_remainsOf ∈ WL := wl_of (in_t5 (List.mem_of_getElem? (i := 68) rfl)) rfl
set_option maxRecDepth 20000 in
theorem qc_X1_remainsOf : Cond.code yX1_remainsOf cX1_remainsOf 4 (some FieldType.int) ∈ WL := wl_of (in_t5 (List.mem_of_getElem? (i := 69) rfl)) rfl
set_option maxRecDepth 20000 in
theorem qm_X10_368 : Cond.methodLink RX10 368 yX1_earliestLastDayOf ∈ WL := wl_of (in_t5 (List.mem_of_getElem? (i := 70) rfl)) rfl
set_option maxRecDepth 20000 in
theorem qi_X1_earliestLastDayOf : Cond.instanceMethod yX1_earliestLastDayOf ∈ WL := wl_of (in_t5 (List.mem_of_getElem? (i := 71) rfl)) rfl
set_option maxRecDepth 20000 in
theorem qs_X1_earliestLastDayOf : Cond.selects RX1 yX1_earliestLastDayOf yX1_earliestLastDayOf ∈ WL := wl_of (in_t5 (List.mem_of_getElem? (i := 72) rfl)) rfl
set_option maxRecDepth 20000 in
theorem qc_X1_earliestLastDayOf : Cond.code yX1_earliestLastDayOf cX1_earliestLastDayOf 4 (some FieldType.int) ∈ WL := wl_of (in_t5 (List.mem_of_getElem? (i := 73) rfl)) rfl
set_option maxRecDepth 20000 in
theorem qm_X10_371 : Cond.methodLink RX10 371 yX1_longestOpenOf ∈ WL := wl_of (in_t5 (List.mem_of_getElem? (i := 74) rfl)) rfl
set_option maxRecDepth 20000 in
theorem qi_X1_longestOpenOf : Cond.instanceMethod yX1_longestOpenOf ∈ WL := wl_of (in_t5 (List.mem_of_getElem? (i := 75) rfl)) rfl
set_option maxRecDepth 20000 in
theorem qs_X1_longestOpenOf : Cond.selects RX1 yX1_longestOpenOf yX1_longestOpenOf ∈ WL := wl_of (in_t5 (List.mem_of_getElem? (i := 76) rfl)) rfl
set_option maxRecDepth 20000 in
theorem qc_X1_longestOpenOf : Cond.code yX1_longestOpenOf cX1_longestOpenOf 5 (some FieldType.int) ∈ WL := wl_of (in_t5 (List.mem_of_getElem? (i := 77) rfl)) rfl
set_option maxRecDepth 20000 in
theorem qm_X1_78 : Cond.methodLink RX1 78 yJ9_max_7cf53 ∈ WL := wl_of (in_t5 (List.mem_of_getElem? (i := 78) rfl)) rfl
set_option maxRecDepth 20000 in
theorem qm_L_230 : Cond.methodLink RL 230 yX10_total ∈ WL := wl_of (in_t5 (List.mem_of_getElem? (i := 79) rfl)) rfl
set_option maxRecDepth 20000 in
theorem qi_X10_total : Cond.instanceMethod yX10_total ∈ WL := wl_of (in_t5 (List.mem_of_getElem? (i := 80) rfl)) rfl
set_option maxRecDepth 20000 in
theorem qs_X10_total : Cond.selects RX10 yX10_total yX10_total ∈ WL := wl_of (in_t5 (List.mem_of_getElem? (i := 81) rfl)) rfl
set_option maxRecDepth 20000 in
theorem qc_X10_total : Cond.code yX10_total cX10_total 2 (some FieldType.int) ∈ WL := wl_of (in_t5 (List.mem_of_getElem? (i := 82) rfl)) rfl
set_option maxRecDepth 20000 in
theorem qm_L_234 : Cond.methodLink RL 234 yX10_row ∈ WL := wl_of (in_t5 (List.mem_of_getElem? (i := 83) rfl)) rfl
set_option maxRecDepth 20000 in
theorem qi_X10_row : Cond.instanceMethod yX10_row ∈ WL := wl_of (in_t5 (List.mem_of_getElem? (i := 84) rfl)) rfl
set_option maxRecDepth 20000 in
theorem qs_X10_row : Cond.selects RX10 yX10_row yX10_row ∈ WL := wl_of (in_t5 (List.mem_of_getElem? (i := 85) rfl)) rfl
set_option maxRecDepth 20000 in
theorem qc_X10_row : Cond.code yX10_row cX10_row 3 (some FieldType.int) ∈ WL := wl_of (in_t5 (List.mem_of_getElem? (i := 86) rfl)) rfl
set_option maxRecDepth 20000 in
theorem qm_X10_374 : Cond.methodLink RX10 374 yX2_makeRow ∈ WL := wl_of (in_t5 (List.mem_of_getElem? (i := 87) rfl)) rfl
set_option maxRecDepth 20000 in
theorem qi_X2_makeRow : Cond.instanceMethod yX2_makeRow ∈ WL := wl_of (in_t5 (List.mem_of_getElem? (i := 88) rfl)) rfl
set_option maxRecDepth 20000 in
theorem qs_X2_makeRow : Cond.selects RX2 yX2_makeRow yX2_makeRow ∈ WL := wl_of (in_t5 (List.mem_of_getElem? (i := 89) rfl)) rfl
set_option maxRecDepth 20000 in
theorem qc_X2_makeRow : Cond.code yX2_makeRow cX2_makeRow 3 (some FieldType.int) ∈ WL := wl_of (in_t5 (List.mem_of_getElem? (i := 90) rfl)) rfl
set_option maxRecDepth 20000 in
theorem qm_X2_22 : Cond.methodLink RX2 22 yJ7_fill_d0a16 ∈ WL := wl_of (in_t5 (List.mem_of_getElem? (i := 91) rfl)) rfl
set_option maxRecDepth 20000 in
theorem qt_J7_fill_d0a16 : Cond.static yJ7_fill_d0a16 ∈ WL := wl_of (in_t5 (List.mem_of_getElem? (i := 92) rfl)) rfl
set_option maxRecDepth 20000 in
theorem qc_J7_fill_d0a16 : Cond.code yJ7_fill_d0a16 cJ7_fill_d0a16 5 (none : Option FieldType) ∈ WL := wl_of (in_t5 (List.mem_of_getElem? (i := 93) rfl)) rfl
set_option maxRecDepth 20000 in
theorem qm_L_240 : Cond.methodLink RL 240 yX10_note ∈ WL := wl_of (in_t5 (List.mem_of_getElem? (i := 94) rfl)) rfl
set_option maxRecDepth 20000 in
theorem qi_X10_note : Cond.instanceMethod yX10_note ∈ WL := wl_of (in_t5 (List.mem_of_getElem? (i := 95) rfl)) rfl
set_option maxRecDepth 20000 in
theorem qs_X10_note : Cond.selects RX10 yX10_note yX10_note ∈ WL := wl_of (in_t5 (List.mem_of_getElem? (i := 96) rfl)) rfl
set_option maxRecDepth 20000 in
theorem qc_X10_note : Cond.code yX10_note cX10_note 5 (some FieldType.int) ∈ WL := wl_of (in_t5 (List.mem_of_getElem? (i := 97) rfl)) rfl
set_option maxRecDepth 20000 in
theorem qm_X10_377 : Cond.methodLink RX10 377 yX2_put ∈ WL := wl_of (in_t5 (List.mem_of_getElem? (i := 98) rfl)) rfl
set_option maxRecDepth 20000 in
theorem qi_X2_put : Cond.instanceMethod yX2_put ∈ WL := wl_of (in_t5 (List.mem_of_getElem? (i := 99) rfl)) rfl
set_option maxRecDepth 20000 in
theorem qs_X2_put : Cond.selects RX2 yX2_put yX2_put ∈ WL := wl_of (in_t5 (List.mem_of_getElem? (i := 100) rfl)) rfl
set_option maxRecDepth 20000 in
theorem qc_X2_put : Cond.code yX2_put cX2_put 5 (some FieldType.int) ∈ WL := wl_of (in_t5 (List.mem_of_getElem? (i := 101) rfl)) rfl
set_option maxRecDepth 20000 in
theorem qm_L_245 : Cond.methodLink RL 245 yX10_noted ∈ WL := wl_of (in_t5 (List.mem_of_getElem? (i := 102) rfl)) rfl
set_option maxRecDepth 20000 in
theorem qi_X10_noted : Cond.instanceMethod yX10_noted ∈ WL := wl_of (in_t5 (List.mem_of_getElem? (i := 103) rfl)) rfl
set_option maxRecDepth 20000 in
theorem qs_X10_noted : Cond.selects RX10 yX10_noted yX10_noted ∈ WL := wl_of (in_t5 (List.mem_of_getElem? (i := 104) rfl)) rfl
set_option maxRecDepth 20000 in
theorem qc_X10_noted : Cond.code yX10_noted cX10_noted 2 (some FieldType.long) ∈ WL := wl_of (in_t5 (List.mem_of_getElem? (i := 105) rfl)) rfl
set_option maxRecDepth 20000 in
theorem qm_X10_381 : Cond.methodLink RX10 381 yX2_at ∈ WL := wl_of (in_t5 (List.mem_of_getElem? (i := 106) rfl)) rfl
set_option maxRecDepth 20000 in
theorem qi_X2_at : Cond.instanceMethod yX2_at ∈ WL := wl_of (in_t5 (List.mem_of_getElem? (i := 107) rfl)) rfl
set_option maxRecDepth 20000 in
theorem qs_X2_at : Cond.selects RX2 yX2_at yX2_at ∈ WL := wl_of (in_t5 (List.mem_of_getElem? (i := 108) rfl)) rfl
set_option maxRecDepth 20000 in
theorem qc_X2_at : Cond.code yX2_at cX2_at 3 (some FieldType.long) ∈ WL := wl_of (in_t5 (List.mem_of_getElem? (i := 109) rfl)) rfl
set_option maxRecDepth 20000 in
theorem qk_X2_28 : Cond.constantLong RX2 28 (-9000000000) ∈ WL := wl_of (in_t5 (List.mem_of_getElem? (i := 110) rfl)) rfl
set_option maxRecDepth 20000 in
theorem qk_X2_30 : Cond.constantLong RX2 30 (9218868437227405312) ∈ WL := wl_of (in_t5 (List.mem_of_getElem? (i := 111) rfl)) rfl
set_option maxRecDepth 20000 in
theorem qk_X2_32 : Cond.constantLong RX2 32 (4503599627370495) ∈ WL := wl_of (in_t5 (List.mem_of_getElem? (i := 112) rfl)) rfl
set_option maxRecDepth 20000 in
theorem qk_X2_34 : Cond.constantLong RX2 34 (9221120237041090560) ∈ WL := wl_of (in_t5 (List.mem_of_getElem? (i := 113) rfl)) rfl
set_option maxRecDepth 20000 in
theorem qm_L_249 : Cond.methodLink RL 249 yX10_letter ∈ WL := wl_of (in_t5 (List.mem_of_getElem? (i := 114) rfl)) rfl
set_option maxRecDepth 20000 in
theorem qi_X10_letter : Cond.instanceMethod yX10_letter ∈ WL := wl_of (in_t5 (List.mem_of_getElem? (i := 115) rfl)) rfl
set_option maxRecDepth 20000 in
theorem qs_X10_letter : Cond.selects RX10 yX10_letter yX10_letter ∈ WL := wl_of (in_t5 (List.mem_of_getElem? (i := 116) rfl)) rfl
set_option maxRecDepth 20000 in
theorem qc_X10_letter : Cond.code yX10_letter cX10_letter 2 (some FieldType.int) ∈ WL := wl_of (in_t5 (List.mem_of_getElem? (i := 117) rfl)) rfl
set_option maxRecDepth 20000 in
theorem qm_X10_385 : Cond.methodLink RX10 385 yX6_spell ∈ WL := wl_of (in_t5 (List.mem_of_getElem? (i := 118) rfl)) rfl
set_option maxRecDepth 20000 in
theorem qi_X6_spell : Cond.instanceMethod yX6_spell ∈ WL := wl_of (in_t5 (List.mem_of_getElem? (i := 119) rfl)) rfl
set_option maxRecDepth 20000 in
theorem qs_X6_spell : Cond.selects RX6 yX6_spell yX6_spell ∈ WL := wl_of (in_t5 (List.mem_of_getElem? (i := 120) rfl)) rfl
set_option maxRecDepth 20000 in
theorem qc_X6_spell : Cond.code yX6_spell cX6_spell 5 (none : Option FieldType) ∈ WL := wl_of (in_t5 (List.mem_of_getElem? (i := 121) rfl)) rfl
set_option maxRecDepth 20000 in
theorem qm_X6_28 : Cond.methodLink RX6 28 yX6_putWord ∈ WL := wl_of (in_t5 (List.mem_of_getElem? (i := 123) rfl)) rfl
set_option maxRecDepth 20000 in
theorem qi_X6_putWord : Cond.instanceMethod yX6_putWord ∈ WL := wl_of (in_t5 (List.mem_of_getElem? (i := 125) rfl)) rfl
set_option maxRecDepth 20000 in
theorem qc_X6_putWord : Cond.code yX6_putWord cX6_putWord 3 (none : Option FieldType) ∈ WL := wl_of (in_t5 (List.mem_of_getElem? (i := 126) rfl)) rfl
set_option maxRecDepth 20000 in
theorem qm_X6_67 : Cond.methodLink RX6 67 yJ0_length_8abf5 ∈ WL := wl_of (in_t5 (List.mem_of_getElem? (i := 127) rfl)) rfl
set_option maxRecDepth 20000 in
theorem qm_X6_72 : Cond.methodLink RX6 72 yJ0_charAt_5068e ∈ WL := wl_of (in_t5 (List.mem_of_getElem? (i := 128) rfl)) rfl
set_option maxRecDepth 20000 in
theorem qm_X6_76 : Cond.methodLink RX6 76 yX6_putByte ∈ WL := wl_of (in_t5 (List.mem_of_getElem? (i := 129) rfl)) rfl
set_option maxRecDepth 20000 in
theorem qi_X6_putByte : Cond.instanceMethod yX6_putByte ∈ WL := wl_of (in_t5 (List.mem_of_getElem? (i := 131) rfl)) rfl
set_option maxRecDepth 20000 in
theorem qc_X6_putByte : Cond.code yX6_putByte cX6_putByte 2 (none : Option FieldType) ∈ WL := wl_of (in_t5 (List.mem_of_getElem? (i := 132) rfl)) rfl
set_option maxRecDepth 20000 in
theorem qm_X6_36 : Cond.methodLink RX6 36 yX6_putNumber ∈ WL := wl_of (in_t5 (List.mem_of_getElem? (i := 133) rfl)) rfl
set_option maxRecDepth 20000 in
theorem qi_X6_putNumber : Cond.instanceMethod yX6_putNumber ∈ WL := wl_of (in_t5 (List.mem_of_getElem? (i := 135) rfl)) rfl
set_option maxRecDepth 20000 in
theorem qc_X6_putNumber : Cond.code yX6_putNumber cX6_putNumber 4 (none : Option FieldType) ∈ WL := wl_of (in_t5 (List.mem_of_getElem? (i := 136) rfl)) rfl
set_option maxRecDepth 20000 in
theorem qm_X6_50 : Cond.methodLink RX6 50 yX6_putPast ∈ WL := wl_of (in_t5 (List.mem_of_getElem? (i := 139) rfl)) rfl
set_option maxRecDepth 20000 in
theorem qi_X6_putPast : Cond.instanceMethod yX6_putPast ∈ WL := wl_of (in_t5 (List.mem_of_getElem? (i := 141) rfl)) rfl
set_option maxRecDepth 20000 in
theorem qc_X6_putPast : Cond.code yX6_putPast cX6_putPast 6 (none : Option FieldType) ∈ WL := wl_of (in_t5 (List.mem_of_getElem? (i := 142) rfl)) rfl
set_option maxRecDepth 20000 in
theorem qm_X6_58 : Cond.methodLink RX6 58 yX5_yearsWithSome ∈ WL := wl_of (in_t5 (List.mem_of_getElem? (i := 144) rfl)) rfl
set_option maxRecDepth 20000 in
theorem qm_X6_64 : Cond.methodLink RX6 64 yX5_inYear ∈ WL := wl_of (in_t5 (List.mem_of_getElem? (i := 146) rfl)) rfl
set_option maxRecDepth 20000 in
theorem qm_L_253 : Cond.methodLink RL 253 yX10_count ∈ WL := wl_of (in_t5 (List.mem_of_getElem? (i := 147) rfl)) rfl
set_option maxRecDepth 20000 in
theorem qi_X10_count : Cond.instanceMethod yX10_count ∈ WL := wl_of (in_t5 (List.mem_of_getElem? (i := 148) rfl)) rfl
set_option maxRecDepth 20000 in
theorem qs_X10_count : Cond.selects RX10 yX10_count yX10_count ∈ WL := wl_of (in_t5 (List.mem_of_getElem? (i := 149) rfl)) rfl
set_option maxRecDepth 20000 in
theorem qc_X10_count : Cond.code yX10_count cX10_count 2 (some FieldType.int) ∈ WL := wl_of (in_t5 (List.mem_of_getElem? (i := 150) rfl)) rfl
set_option maxRecDepth 20000 in
theorem ql_L_10 : Cond.classLink RL 10 RX11 ∈ WL := wl_of (in_t5 (List.mem_of_getElem? (i := 151) rfl)) rfl
set_option maxRecDepth 20000 in
theorem qb_X11 : Cond.instantiable RX11 18 ∈ WL := wl_of (in_t5 (List.mem_of_getElem? (i := 152) rfl)) rfl
set_option maxRecDepth 20000 in
theorem qm_L_12 : Cond.methodLink RL 12 yX11_init ∈ WL := wl_of (in_t5 (List.mem_of_getElem? (i := 153) rfl)) rfl
set_option maxRecDepth 20000 in
theorem qi_X11_init : Cond.instanceMethod yX11_init ∈ WL := wl_of (in_t5 (List.mem_of_getElem? (i := 154) rfl)) rfl
set_option maxRecDepth 20000 in
theorem qc_X11_init : Cond.code yX11_init cX11_init 1 (none : Option FieldType) ∈ WL := wl_of (in_t5 (List.mem_of_getElem? (i := 155) rfl)) rfl
set_option maxRecDepth 20000 in
theorem qm_X11_1 : Cond.methodLink RX11 1 ⟨"java/lang/Object", "<init>", "()V"⟩ ∈ WL := wl_of (in_t5 (List.mem_of_getElem? (i := 156) rfl)) rfl
set_option maxRecDepth 20000 in
theorem qf_X11_9 : Cond.fieldLink RX11 9 "QuotaLicencesModel" "now" "[J" ∈ WL := wl_of (in_t5 (List.mem_of_getElem? (i := 157) rfl)) rfl
set_option maxRecDepth 20000 in
theorem qf_X11_13 : Cond.fieldLink RX11 13 "QuotaLicencesModel" "heard" "[J" ∈ WL := wl_of (in_t5 (List.mem_of_getElem? (i := 158) rfl)) rfl
set_option maxRecDepth 20000 in
theorem qf_X11_16 : Cond.fieldLink RX11 16 "QuotaLicencesModel" "aside" "[J" ∈ WL := wl_of (in_t5 (List.mem_of_getElem? (i := 159) rfl)) rfl
set_option maxRecDepth 20000 in
theorem qf_X11_19 : Cond.fieldLink RX11 19 "QuotaLicencesModel" "past" "[J" ∈ WL := wl_of (in_t5 (List.mem_of_getElem? (i := 160) rfl)) rfl
set_option maxRecDepth 20000 in
theorem qf_X11_22 : Cond.fieldLink RX11 22 "QuotaLicencesModel" "shelf" "[J" ∈ WL := wl_of (in_t5 (List.mem_of_getElem? (i := 161) rfl)) rfl
set_option maxRecDepth 20000 in
theorem qf_X11_25 : Cond.fieldLink RX11 25 "QuotaLicencesModel" "isKept" "[Z" ∈ WL := wl_of (in_t5 (List.mem_of_getElem? (i := 162) rfl)) rfl
set_option maxRecDepth 20000 in
theorem qf_X11_158 : Cond.fieldLink RX11 158 "QuotaLicencesModel" "pastMany" "I" ∈ WL := wl_of (in_t5 (List.mem_of_getElem? (i := 163) rfl)) rfl
set_option maxRecDepth 20000 in
theorem qf_X11_29 : Cond.fieldLink RX11 29 "QuotaLicencesModel" "tape" "[B" ∈ WL := wl_of (in_t5 (List.mem_of_getElem? (i := 164) rfl)) rfl
set_option maxRecDepth 20000 in
theorem qf_X11_64 : Cond.fieldLink RX11 64 "QuotaLicencesModel" "taped" "I" ∈ WL := wl_of (in_t5 (List.mem_of_getElem? (i := 165) rfl)) rfl
set_option maxRecDepth 20000 in
theorem qf_X11_71 : Cond.fieldLink RX11 71 "QuotaLicencesModel" "at" "I" ∈ WL := wl_of (in_t5 (List.mem_of_getElem? (i := 166) rfl)) rfl
set_option maxRecDepth 20000 in
theorem qf_X11_78 : Cond.fieldLink RX11 78 "QuotaLicencesModel" "fault" "I" ∈ WL := wl_of (in_t5 (List.mem_of_getElem? (i := 167) rfl)) rfl
set_option maxRecDepth 20000 in
theorem qf_X11_113 : Cond.fieldLink RX11 113 "QuotaLicencesModel" "numberAt" "I" ∈ WL := wl_of (in_t5 (List.mem_of_getElem? (i := 168) rfl)) rfl
set_option maxRecDepth 20000 in
theorem qf_X11_33 : Cond.fieldLink RX11 33 "QuotaLicencesModel" "notes" "[J" ∈ WL := wl_of (in_t5 (List.mem_of_getElem? (i := 169) rfl)) rfl
set_option maxRecDepth 20000 in
theorem qf_X11_36 : Cond.fieldLink RX11 36 "QuotaLicencesModel" "noteSort" "I" ∈ WL := wl_of (in_t5 (List.mem_of_getElem? (i := 170) rfl)) rfl
set_option maxRecDepth 20000 in
theorem qf_X11_353 : Cond.fieldLink RX11 353 "QuotaLicencesModel" "noteMany" "I" ∈ WL := wl_of (in_t5 (List.mem_of_getElem? (i := 171) rfl)) rfl
set_option maxRecDepth 20000 in
theorem qf_X11_368 : Cond.fieldLink RX11 368 "QuotaLicencesModel" "written" "I" ∈ WL := wl_of (in_t5 (List.mem_of_getElem? (i := 172) rfl)) rfl
set_option maxRecDepth 20000 in
theorem qf_X11_371 : Cond.fieldLink RX11 371 "QuotaLicencesModel" "wanted" "I" ∈ WL := wl_of (in_t5 (List.mem_of_getElem? (i := 173) rfl)) rfl
set_option maxRecDepth 20000 in
theorem qf_X11_374 : Cond.fieldLink RX11 374 "QuotaLicencesModel" "found" "I" ∈ WL := wl_of (in_t5 (List.mem_of_getElem? (i := 174) rfl)) rfl
set_option maxRecDepth 20000 in
theorem qa_boolean : Cond.arrayClass FieldType.boolean ∈ WL := wl_of (in_t5 (List.mem_of_getElem? (i := 212) rfl)) rfl
set_option maxRecDepth 20000 in
theorem qm_L_17 : Cond.methodLink RL 17 yX11_feed ∈ WL := wl_of (in_t5 (List.mem_of_getElem? (i := 213) rfl)) rfl
set_option maxRecDepth 20000 in
theorem qi_X11_feed : Cond.instanceMethod yX11_feed ∈ WL := wl_of (in_t5 (List.mem_of_getElem? (i := 214) rfl)) rfl
set_option maxRecDepth 20000 in
theorem qs_X11_feed : Cond.selects RX11 yX11_feed yX11_feed ∈ WL := wl_of (in_t5 (List.mem_of_getElem? (i := 215) rfl)) rfl
set_option maxRecDepth 20000 in
theorem qc_X11_feed : Cond.code yX11_feed cX11_feed 6 (some FieldType.int) ∈ WL := wl_of (in_t5 (List.mem_of_getElem? (i := 216) rfl)) rfl
set_option maxRecDepth 20000 in
theorem qm_X11_67 : Cond.methodLink RX11 67 yX11_puts ∈ WL := wl_of (in_t5 (List.mem_of_getElem? (i := 217) rfl)) rfl
set_option maxRecDepth 20000 in
theorem qi_X11_puts : Cond.instanceMethod yX11_puts ∈ WL := wl_of (in_t5 (List.mem_of_getElem? (i := 219) rfl)) rfl
set_option maxRecDepth 20000 in
theorem qc_X11_puts : Cond.code yX11_puts cX11_puts 3 (none : Option FieldType) ∈ WL := wl_of (in_t5 (List.mem_of_getElem? (i := 220) rfl)) rfl
set_option maxRecDepth 20000 in
theorem qm_L_22 : Cond.methodLink RL 22 yX11_end ∈ WL := wl_of (in_t5 (List.mem_of_getElem? (i := 221) rfl)) rfl
set_option maxRecDepth 20000 in
theorem qi_X11_end : Cond.instanceMethod yX11_end ∈ WL := wl_of (in_t5 (List.mem_of_getElem? (i := 222) rfl)) rfl
set_option maxRecDepth 20000 in
theorem qs_X11_end : Cond.selects RX11 yX11_end yX11_end ∈ WL := wl_of (in_t5 (List.mem_of_getElem? (i := 223) rfl)) rfl
set_option maxRecDepth 20000 in
theorem qc_X11_end : Cond.code yX11_end cX11_end 2 (some FieldType.int) ∈ WL := wl_of (in_t5 (List.mem_of_getElem? (i := 224) rfl)) rfl
set_option maxRecDepth 20000 in
theorem qm_L_27 : Cond.methodLink RL 27 yX11_tell ∈ WL := wl_of (in_t5 (List.mem_of_getElem? (i := 225) rfl)) rfl
set_option maxRecDepth 20000 in
theorem qi_X11_tell : Cond.instanceMethod yX11_tell ∈ WL := wl_of (in_t5 (List.mem_of_getElem? (i := 226) rfl)) rfl
set_option maxRecDepth 20000 in
theorem qs_X11_tell : Cond.selects RX11 yX11_tell yX11_tell ∈ WL := wl_of (in_t5 (List.mem_of_getElem? (i := 227) rfl)) rfl
set_option maxRecDepth 20000 in
theorem qc_X11_tell : Cond.code yX11_tell cX11_tell 2 (some FieldType.int) ∈ WL := wl_of (in_t5 (List.mem_of_getElem? (i := 228) rfl)) rfl
set_option maxRecDepth 20000 in
theorem qm_X11_135 : Cond.methodLink RX11 135 yX11_takes ∈ WL := wl_of (in_t5 (List.mem_of_getElem? (i := 230) rfl)) rfl
set_option maxRecDepth 20000 in
theorem qi_X11_takes : Cond.instanceMethod yX11_takes ∈ WL := wl_of (in_t5 (List.mem_of_getElem? (i := 232) rfl)) rfl
set_option maxRecDepth 20000 in
theorem qc_X11_takes : Cond.code yX11_takes cX11_takes 2 (some FieldType.boolean) ∈ WL := wl_of (in_t5 (List.mem_of_getElem? (i := 233) rfl)) rfl
set_option maxRecDepth 20000 in
theorem qm_X11_101 : Cond.methodLink RX11 101 yX11_isWord ∈ WL := wl_of (in_t5 (List.mem_of_getElem? (i := 234) rfl)) rfl
set_option maxRecDepth 20000 in
theorem qi_X11_isWord : Cond.instanceMethod yX11_isWord ∈ WL := wl_of (in_t5 (List.mem_of_getElem? (i := 236) rfl)) rfl
set_option maxRecDepth 20000 in
theorem qc_X11_isWord : Cond.code yX11_isWord cX11_isWord 5 (some FieldType.boolean) ∈ WL := wl_of (in_t5 (List.mem_of_getElem? (i := 237) rfl)) rfl
set_option maxRecDepth 20000 in
theorem qm_X11_85 : Cond.methodLink RX11 85 yX11_next ∈ WL := wl_of (in_t5 (List.mem_of_getElem? (i := 238) rfl)) rfl
set_option maxRecDepth 20000 in
theorem qi_X11_next : Cond.instanceMethod yX11_next ∈ WL := wl_of (in_t6 (List.mem_of_getElem? (i := 0) rfl)) rfl
set_option maxRecDepth 20000 in
theorem qc_X11_next : Cond.code yX11_next cX11_next 1 (some FieldType.int) ∈ WL := wl_of (in_t6 (List.mem_of_getElem? (i := 1) rfl)) rfl
set_option maxRecDepth 20000 in
theorem qm_X11_74 : Cond.methodLink RX11 74 yX11_sign ∈ WL := wl_of (in_t6 (List.mem_of_getElem? (i := 2) rfl)) rfl
set_option maxRecDepth 20000 in
theorem qi_X11_sign : Cond.instanceMethod yX11_sign ∈ WL := wl_of (in_t6 (List.mem_of_getElem? (i := 4) rfl)) rfl
set_option maxRecDepth 20000 in
theorem qc_X11_sign : Cond.code yX11_sign cX11_sign 1 (some FieldType.int) ∈ WL := wl_of (in_t6 (List.mem_of_getElem? (i := 5) rfl)) rfl
set_option maxRecDepth 20000 in
theorem qk_X11_88 : Cond.constantLong RX11 88 (97) ∈ WL := wl_of (in_t6 (List.mem_of_getElem? (i := 6) rfl)) rfl
set_option maxRecDepth 20000 in
theorem qk_X11_90 : Cond.constantLong RX11 90 (122) ∈ WL := wl_of (in_t6 (List.mem_of_getElem? (i := 7) rfl)) rfl
set_option maxRecDepth 20000 in
theorem qm_X11_51 : Cond.methodLink RX11 51 yX11_in ∈ WL := wl_of (in_t6 (List.mem_of_getElem? (i := 8) rfl)) rfl
set_option maxRecDepth 20000 in
theorem qt_X11_in : Cond.static yX11_in ∈ WL := wl_of (in_t6 (List.mem_of_getElem? (i := 9) rfl)) rfl
set_option maxRecDepth 20000 in
theorem qc_X11_in : Cond.code yX11_in cX11_in 6 (some FieldType.boolean) ∈ WL := wl_of (in_t6 (List.mem_of_getElem? (i := 10) rfl)) rfl
set_option maxRecDepth 20000 in
theorem qm_X11_92 : Cond.methodLink RX11 92 yJ0_length_8abf5 ∈ WL := wl_of (in_t6 (List.mem_of_getElem? (i := 11) rfl)) rfl
set_option maxRecDepth 20000 in
theorem qm_X11_97 : Cond.methodLink RX11 97 yJ0_charAt_5068e ∈ WL := wl_of (in_t6 (List.mem_of_getElem? (i := 12) rfl)) rfl
set_option maxRecDepth 20000 in
theorem qm_X11_109 : Cond.methodLink RX11 109 yX11_fails ∈ WL := wl_of (in_t6 (List.mem_of_getElem? (i := 13) rfl)) rfl
set_option maxRecDepth 20000 in
theorem qi_X11_fails : Cond.instanceMethod yX11_fails ∈ WL := wl_of (in_t6 (List.mem_of_getElem? (i := 15) rfl)) rfl
set_option maxRecDepth 20000 in
theorem qc_X11_fails : Cond.code yX11_fails cX11_fails 3 (none : Option FieldType) ∈ WL := wl_of (in_t6 (List.mem_of_getElem? (i := 16) rfl)) rfl
set_option maxRecDepth 20000 in
theorem qm_X11_81 : Cond.methodLink RX11 81 yX11_isRight ∈ WL := wl_of (in_t6 (List.mem_of_getElem? (i := 17) rfl)) rfl
set_option maxRecDepth 20000 in
theorem qi_X11_isRight : Cond.instanceMethod yX11_isRight ∈ WL := wl_of (in_t6 (List.mem_of_getElem? (i := 19) rfl)) rfl
set_option maxRecDepth 20000 in
theorem qc_X11_isRight : Cond.code yX11_isRight cX11_isRight 1 (some FieldType.boolean) ∈ WL := wl_of (in_t6 (List.mem_of_getElem? (i := 20) rfl)) rfl
set_option maxRecDepth 20000 in
theorem qm_X11_144 : Cond.methodLink RX11 144 yX11_lowest ∈ WL := wl_of (in_t6 (List.mem_of_getElem? (i := 21) rfl)) rfl
set_option maxRecDepth 20000 in
theorem qt_X11_lowest : Cond.static yX11_lowest ∈ WL := wl_of (in_t6 (List.mem_of_getElem? (i := 22) rfl)) rfl
set_option maxRecDepth 20000 in
theorem qc_X11_lowest : Cond.code yX11_lowest cX11_lowest 1 (some FieldType.int) ∈ WL := wl_of (in_t6 (List.mem_of_getElem? (i := 23) rfl)) rfl
set_option maxRecDepth 20000 in
theorem qm_X11_122 : Cond.methodLink RX11 122 yX11_truth ∈ WL := wl_of (in_t6 (List.mem_of_getElem? (i := 24) rfl)) rfl
set_option maxRecDepth 20000 in
theorem qt_X11_truth : Cond.static yX11_truth ∈ WL := wl_of (in_t6 (List.mem_of_getElem? (i := 25) rfl)) rfl
set_option maxRecDepth 20000 in
theorem qc_X11_truth : Cond.code yX11_truth cX11_truth 1 (some FieldType.int) ∈ WL := wl_of (in_t6 (List.mem_of_getElem? (i := 26) rfl)) rfl
set_option maxRecDepth 20000 in
theorem qm_X11_148 : Cond.methodLink RX11 148 yX11_highest ∈ WL := wl_of (in_t6 (List.mem_of_getElem? (i := 27) rfl)) rfl
set_option maxRecDepth 20000 in
theorem qt_X11_highest : Cond.static yX11_highest ∈ WL := wl_of (in_t6 (List.mem_of_getElem? (i := 28) rfl)) rfl
set_option maxRecDepth 20000 in
theorem qc_X11_highest : Cond.code yX11_highest cX11_highest 1 (some FieldType.int) ∈ WL := wl_of (in_t6 (List.mem_of_getElem? (i := 29) rfl)) rfl
set_option maxRecDepth 20000 in
theorem qk_X11_126 : Cond.constant RX11 126 (99999) ∈ WL := wl_of (in_t6 (List.mem_of_getElem? (i := 30) rfl)) rfl
set_option maxRecDepth 20000 in
theorem qm_X11_138 : Cond.methodLink RX11 138 yX11_number ∈ WL := wl_of (in_t6 (List.mem_of_getElem? (i := 31) rfl)) rfl
set_option maxRecDepth 20000 in
theorem qi_X11_number : Cond.instanceMethod yX11_number ∈ WL := wl_of (in_t6 (List.mem_of_getElem? (i := 33) rfl)) rfl
set_option maxRecDepth 20000 in
theorem qc_X11_number : Cond.code yX11_number cX11_number 4 (some FieldType.int) ∈ WL := wl_of (in_t6 (List.mem_of_getElem? (i := 34) rfl)) rfl
set_option maxRecDepth 20000 in
theorem qk_X11_105 : Cond.constantLong RX11 105 (48) ∈ WL := wl_of (in_t6 (List.mem_of_getElem? (i := 35) rfl)) rfl
set_option maxRecDepth 20000 in
theorem qk_X11_107 : Cond.constantLong RX11 107 (57) ∈ WL := wl_of (in_t6 (List.mem_of_getElem? (i := 36) rfl)) rfl
set_option maxRecDepth 20000 in
theorem qk_X11_116 : Cond.constant RX11 116 (1000000) ∈ WL := wl_of (in_t6 (List.mem_of_getElem? (i := 37) rfl)) rfl
set_option maxRecDepth 20000 in
theorem qm_X11_117 : Cond.methodLink RX11 117 yJ9_min_7cf53 ∈ WL := wl_of (in_t6 (List.mem_of_getElem? (i := 38) rfl)) rfl
set_option maxRecDepth 20000 in
theorem qm_X11_151 : Cond.methodLink RX11 151 yX11_readsPiece ∈ WL := wl_of (in_t6 (List.mem_of_getElem? (i := 39) rfl)) rfl
set_option maxRecDepth 20000 in
theorem qi_X11_readsPiece : Cond.instanceMethod yX11_readsPiece ∈ WL := wl_of (in_t6 (List.mem_of_getElem? (i := 41) rfl)) rfl
set_option maxRecDepth 20000 in
theorem qc_X11_readsPiece : Cond.code yX11_readsPiece cX11_readsPiece 6 (none : Option FieldType) ∈ WL := wl_of (in_t6 (List.mem_of_getElem? (i := 42) rfl)) rfl
set_option maxRecDepth 20000 in
theorem qk_X11_129 : Cond.constantLong RX11 129 (4) ∈ WL := wl_of (in_t6 (List.mem_of_getElem? (i := 44) rfl)) rfl
set_option maxRecDepth 20000 in
theorem qk_X11_133 : Cond.constantLong RX11 133 (8) ∈ WL := wl_of (in_t6 (List.mem_of_getElem? (i := 46) rfl)) rfl
set_option maxRecDepth 20000 in
theorem qm_X11_40 : Cond.methodLink RX11 40 yX11_originAt ∈ WL := wl_of (in_t6 (List.mem_of_getElem? (i := 47) rfl)) rfl
set_option maxRecDepth 20000 in
theorem qt_X11_originAt : Cond.static yX11_originAt ∈ WL := wl_of (in_t6 (List.mem_of_getElem? (i := 48) rfl)) rfl
set_option maxRecDepth 20000 in
theorem qc_X11_originAt : Cond.code yX11_originAt cX11_originAt 2 (some FieldType.int) ∈ WL := wl_of (in_t6 (List.mem_of_getElem? (i := 49) rfl)) rfl
set_option maxRecDepth 20000 in
theorem qm_X11_44 : Cond.methodLink RX11 44 yX11_pairAt ∈ WL := wl_of (in_t6 (List.mem_of_getElem? (i := 51) rfl)) rfl
set_option maxRecDepth 20000 in
theorem qt_X11_pairAt : Cond.static yX11_pairAt ∈ WL := wl_of (in_t6 (List.mem_of_getElem? (i := 52) rfl)) rfl
set_option maxRecDepth 20000 in
theorem qc_X11_pairAt : Cond.code yX11_pairAt cX11_pairAt 3 (some FieldType.int) ∈ WL := wl_of (in_t6 (List.mem_of_getElem? (i := 53) rfl)) rfl
set_option maxRecDepth 20000 in
theorem qm_X11_154 : Cond.methodLink RX11 154 yX11_moves ∈ WL := wl_of (in_t6 (List.mem_of_getElem? (i := 54) rfl)) rfl
set_option maxRecDepth 20000 in
theorem qt_X11_moves : Cond.static yX11_moves ∈ WL := wl_of (in_t6 (List.mem_of_getElem? (i := 55) rfl)) rfl
set_option maxRecDepth 20000 in
theorem qc_X11_moves : Cond.code yX11_moves cX11_moves 5 (none : Option FieldType) ∈ WL := wl_of (in_t6 (List.mem_of_getElem? (i := 56) rfl)) rfl
set_option maxRecDepth 20000 in
theorem qm_X11_161 : Cond.methodLink RX11 161 yX11_periodBegins ∈ WL := wl_of (in_t6 (List.mem_of_getElem? (i := 57) rfl)) rfl
set_option maxRecDepth 20000 in
theorem qi_X11_periodBegins : Cond.instanceMethod yX11_periodBegins ∈ WL := wl_of (in_t6 (List.mem_of_getElem? (i := 59) rfl)) rfl
set_option maxRecDepth 20000 in
theorem qc_X11_periodBegins : Cond.code yX11_periodBegins cX11_periodBegins 11 (none : Option FieldType) ∈ WL := wl_of (in_t6 (List.mem_of_getElem? (i := 60) rfl)) rfl
set_option maxRecDepth 20000 in
theorem qk_X11_180 : Cond.constantLong RX11 180 (360) ∈ WL := wl_of (in_t6 (List.mem_of_getElem? (i := 61) rfl)) rfl
set_option maxRecDepth 20000 in
theorem qm_X11_164 : Cond.methodLink RX11 164 yX11_many ∈ WL := wl_of (in_t6 (List.mem_of_getElem? (i := 62) rfl)) rfl
set_option maxRecDepth 20000 in
theorem qi_X11_many : Cond.instanceMethod yX11_many ∈ WL := wl_of (in_t6 (List.mem_of_getElem? (i := 64) rfl)) rfl
set_option maxRecDepth 20000 in
theorem qc_X11_many : Cond.code yX11_many cX11_many 2 (some FieldType.int) ∈ WL := wl_of (in_t6 (List.mem_of_getElem? (i := 65) rfl)) rfl
set_option maxRecDepth 20000 in
theorem qm_X11_182 : Cond.methodLink RX11 182 yX11_leaves ∈ WL := wl_of (in_t6 (List.mem_of_getElem? (i := 66) rfl)) rfl
set_option maxRecDepth 20000 in
theorem qi_X11_leaves : Cond.instanceMethod yX11_leaves ∈ WL := wl_of (in_t6 (List.mem_of_getElem? (i := 68) rfl)) rfl
set_option maxRecDepth 20000 in
theorem qc_X11_leaves : Cond.code yX11_leaves cX11_leaves 5 (some FieldType.long) ∈ WL := wl_of (in_t6 (List.mem_of_getElem? (i := 69) rfl)) rfl
set_option maxRecDepth 20000 in
theorem qm_X11_185 : Cond.methodLink RX11 185 yX11_isTraditional ∈ WL := wl_of (in_t6 (List.mem_of_getElem? (i := 70) rfl)) rfl
set_option maxRecDepth 20000 in
theorem qi_X11_isTraditional : Cond.instanceMethod yX11_isTraditional ∈ WL := wl_of (in_t6 (List.mem_of_getElem? (i := 72) rfl)) rfl
set_option maxRecDepth 20000 in
theorem qc_X11_isTraditional : Cond.code yX11_isTraditional cX11_isTraditional 5 (some FieldType.boolean) ∈ WL := wl_of (in_t6 (List.mem_of_getElem? (i := 73) rfl)) rfl
set_option maxRecDepth 20000 in
theorem qm_X11_167 : Cond.methodLink RX11 167 yX11_ofPair ∈ WL := wl_of (in_t6 (List.mem_of_getElem? (i := 74) rfl)) rfl
set_option maxRecDepth 20000 in
theorem qi_X11_ofPair : Cond.instanceMethod yX11_ofPair ∈ WL := wl_of (in_t6 (List.mem_of_getElem? (i := 76) rfl)) rfl
set_option maxRecDepth 20000 in
theorem qc_X11_ofPair : Cond.code yX11_ofPair cX11_ofPair 4 (some FieldType.int) ∈ WL := wl_of (in_t6 (List.mem_of_getElem? (i := 77) rfl)) rfl
set_option maxRecDepth 20000 in
theorem qm_X11_189 : Cond.methodLink RX11 189 yX11_shareBy ∈ WL := wl_of (in_t6 (List.mem_of_getElem? (i := 78) rfl)) rfl
set_option maxRecDepth 20000 in
theorem qi_X11_shareBy : Cond.instanceMethod yX11_shareBy ∈ WL := wl_of (in_t6 (List.mem_of_getElem? (i := 80) rfl)) rfl
set_option maxRecDepth 20000 in
theorem qc_X11_shareBy : Cond.code yX11_shareBy cX11_shareBy 7 (some FieldType.int) ∈ WL := wl_of (in_t6 (List.mem_of_getElem? (i := 81) rfl)) rfl
set_option maxRecDepth 20000 in
theorem qk_X11_174 : Cond.constantLong RX11 174 (100) ∈ WL := wl_of (in_t6 (List.mem_of_getElem? (i := 82) rfl)) rfl
set_option maxRecDepth 20000 in
theorem qm_X11_170 : Cond.methodLink RX11 170 yX11_importedOf ∈ WL := wl_of (in_t6 (List.mem_of_getElem? (i := 83) rfl)) rfl
set_option maxRecDepth 20000 in
theorem qi_X11_importedOf : Cond.instanceMethod yX11_importedOf ∈ WL := wl_of (in_t6 (List.mem_of_getElem? (i := 85) rfl)) rfl
set_option maxRecDepth 20000 in
theorem qc_X11_importedOf : Cond.code yX11_importedOf cX11_importedOf 3 (some FieldType.long) ∈ WL := wl_of (in_t6 (List.mem_of_getElem? (i := 86) rfl)) rfl
set_option maxRecDepth 20000 in
theorem qm_X11_176 : Cond.methodLink RX11 176 yX11_allImported ∈ WL := wl_of (in_t6 (List.mem_of_getElem? (i := 87) rfl)) rfl
set_option maxRecDepth 20000 in
theorem qi_X11_allImported : Cond.instanceMethod yX11_allImported ∈ WL := wl_of (in_t6 (List.mem_of_getElem? (i := 89) rfl)) rfl
set_option maxRecDepth 20000 in
theorem qc_X11_allImported : Cond.code yX11_allImported cX11_allImported 5 (some FieldType.long) ∈ WL := wl_of (in_t6 (List.mem_of_getElem? (i := 90) rfl)) rfl
set_option maxRecDepth 20000 in
theorem qm_L_75 : Cond.methodLink RL 75 yX11_undo ∈ WL := wl_of (in_t6 (List.mem_of_getElem? (i := 91) rfl)) rfl
set_option maxRecDepth 20000 in
theorem qi_X11_undo : Cond.instanceMethod yX11_undo ∈ WL := wl_of (in_t6 (List.mem_of_getElem? (i := 92) rfl)) rfl
set_option maxRecDepth 20000 in
theorem qs_X11_undo : Cond.selects RX11 yX11_undo yX11_undo ∈ WL := wl_of (in_t6 (List.mem_of_getElem? (i := 93) rfl)) rfl
set_option maxRecDepth 20000 in
theorem qc_X11_undo : Cond.code yX11_undo cX11_undo 1 (some FieldType.int) ∈ WL := wl_of (in_t6 (List.mem_of_getElem? (i := 94) rfl)) rfl
set_option maxRecDepth 20000 in
theorem qm_L_79 : Cond.methodLink RL 79 yX11_keep ∈ WL := wl_of (in_t6 (List.mem_of_getElem? (i := 95) rfl)) rfl
set_option maxRecDepth 20000 in
theorem qi_X11_keep : Cond.instanceMethod yX11_keep ∈ WL := wl_of (in_t6 (List.mem_of_getElem? (i := 96) rfl)) rfl
set_option maxRecDepth 20000 in
theorem qs_X11_keep : Cond.selects RX11 yX11_keep yX11_keep ∈ WL := wl_of (in_t6 (List.mem_of_getElem? (i := 97) rfl)) rfl
set_option maxRecDepth 20000 in
theorem qc_X11_keep : Cond.code yX11_keep cX11_keep 2 (some FieldType.int) ∈ WL := wl_of (in_t6 (List.mem_of_getElem? (i := 98) rfl)) rfl
set_option maxRecDepth 20000 in
theorem qm_L_83 : Cond.methodLink RL 83 yX11_back ∈ WL := wl_of (in_t6 (List.mem_of_getElem? (i := 99) rfl)) rfl
set_option maxRecDepth 20000 in
theorem qi_X11_back : Cond.instanceMethod yX11_back ∈ WL := wl_of (in_t6 (List.mem_of_getElem? (i := 100) rfl)) rfl
set_option maxRecDepth 20000 in
theorem qs_X11_back : Cond.selects RX11 yX11_back yX11_back ∈ WL := wl_of (in_t6 (List.mem_of_getElem? (i := 101) rfl)) rfl
set_option maxRecDepth 20000 in
theorem qc_X11_back : Cond.code yX11_back cX11_back 2 (some FieldType.int) ∈ WL := wl_of (in_t6 (List.mem_of_getElem? (i := 102) rfl)) rfl
set_option maxRecDepth 20000 in
theorem qm_L_32 : Cond.methodLink RL 32 yX11_apply ∈ WL := wl_of (in_t6 (List.mem_of_getElem? (i := 103) rfl)) rfl
set_option maxRecDepth 20000 in
theorem qi_X11_apply : Cond.instanceMethod yX11_apply ∈ WL := wl_of (in_t6 (List.mem_of_getElem? (i := 104) rfl)) rfl
set_option maxRecDepth 20000 in
theorem qs_X11_apply : Cond.selects RX11 yX11_apply yX11_apply ∈ WL := wl_of (in_t6 (List.mem_of_getElem? (i := 105) rfl)) rfl
set_option maxRecDepth 20000 in
theorem qc_X11_apply : Cond.code yX11_apply cX11_apply 5 (some FieldType.int) ∈ WL := wl_of (in_t6 (List.mem_of_getElem? (i := 106) rfl)) rfl
set_option maxRecDepth 20000 in
theorem qm_X11_236 : Cond.methodLink RX11 236 yX11_arePair ∈ WL := wl_of (in_t6 (List.mem_of_getElem? (i := 107) rfl)) rfl
set_option maxRecDepth 20000 in
theorem qi_X11_arePair : Cond.instanceMethod yX11_arePair ∈ WL := wl_of (in_t6 (List.mem_of_getElem? (i := 109) rfl)) rfl
set_option maxRecDepth 20000 in
theorem qc_X11_arePair : Cond.code yX11_arePair cX11_arePair 3 (some FieldType.boolean) ∈ WL := wl_of (in_t6 (List.mem_of_getElem? (i := 110) rfl)) rfl
set_option maxRecDepth 20000 in
theorem qm_X11_55 : Cond.methodLink RX11 55 yX11_isImporter ∈ WL := wl_of (in_t6 (List.mem_of_getElem? (i := 111) rfl)) rfl
set_option maxRecDepth 20000 in
theorem qi_X11_isImporter : Cond.instanceMethod yX11_isImporter ∈ WL := wl_of (in_t6 (List.mem_of_getElem? (i := 113) rfl)) rfl
set_option maxRecDepth 20000 in
theorem qc_X11_isImporter : Cond.code yX11_isImporter cX11_isImporter 2 (some FieldType.boolean) ∈ WL := wl_of (in_t6 (List.mem_of_getElem? (i := 114) rfl)) rfl
set_option maxRecDepth 20000 in
theorem qm_X11_59 : Cond.methodLink RX11 59 yX11_isOrigin ∈ WL := wl_of (in_t6 (List.mem_of_getElem? (i := 115) rfl)) rfl
set_option maxRecDepth 20000 in
theorem qi_X11_isOrigin : Cond.instanceMethod yX11_isOrigin ∈ WL := wl_of (in_t6 (List.mem_of_getElem? (i := 117) rfl)) rfl
set_option maxRecDepth 20000 in
theorem qc_X11_isOrigin : Cond.code yX11_isOrigin cX11_isOrigin 2 (some FieldType.boolean) ∈ WL := wl_of (in_t6 (List.mem_of_getElem? (i := 118) rfl)) rfl
set_option maxRecDepth 20000 in
theorem qm_X11_239 : Cond.methodLink RX11 239 yX11_isMuch ∈ WL := wl_of (in_t6 (List.mem_of_getElem? (i := 119) rfl)) rfl
set_option maxRecDepth 20000 in
theorem qt_X11_isMuch : Cond.static yX11_isMuch ∈ WL := wl_of (in_t6 (List.mem_of_getElem? (i := 120) rfl)) rfl
set_option maxRecDepth 20000 in
theorem qc_X11_isMuch : Cond.code yX11_isMuch cX11_isMuch 1 (some FieldType.boolean) ∈ WL := wl_of (in_t6 (List.mem_of_getElem? (i := 121) rfl)) rfl
set_option maxRecDepth 20000 in
theorem qk_X11_62 : Cond.constantLong RX11 62 (99999) ∈ WL := wl_of (in_t6 (List.mem_of_getElem? (i := 122) rfl)) rfl
set_option maxRecDepth 20000 in
theorem qm_X11_229 : Cond.methodLink RX11 229 yX11_grantable ∈ WL := wl_of (in_t6 (List.mem_of_getElem? (i := 123) rfl)) rfl
set_option maxRecDepth 20000 in
theorem qi_X11_grantable : Cond.instanceMethod yX11_grantable ∈ WL := wl_of (in_t6 (List.mem_of_getElem? (i := 125) rfl)) rfl
set_option maxRecDepth 20000 in
theorem qc_X11_grantable : Cond.code yX11_grantable cX11_grantable 6 (some FieldType.int) ∈ WL := wl_of (in_t6 (List.mem_of_getElem? (i := 126) rfl)) rfl
set_option maxRecDepth 20000 in
theorem qm_X11_223 : Cond.methodLink RX11 223 yX11_wasIdle ∈ WL := wl_of (in_t6 (List.mem_of_getElem? (i := 127) rfl)) rfl
set_option maxRecDepth 20000 in
theorem qi_X11_wasIdle : Cond.instanceMethod yX11_wasIdle ∈ WL := wl_of (in_t6 (List.mem_of_getElem? (i := 129) rfl)) rfl
set_option maxRecDepth 20000 in
theorem qc_X11_wasIdle : Cond.code yX11_wasIdle cX11_wasIdle 4 (some FieldType.boolean) ∈ WL := wl_of (in_t6 (List.mem_of_getElem? (i := 130) rfl)) rfl
set_option maxRecDepth 20000 in
theorem qm_X11_206 : Cond.methodLink RX11 206 yX11_endedLast ∈ WL := wl_of (in_t6 (List.mem_of_getElem? (i := 131) rfl)) rfl
set_option maxRecDepth 20000 in
theorem qi_X11_endedLast : Cond.instanceMethod yX11_endedLast ∈ WL := wl_of (in_t6 (List.mem_of_getElem? (i := 133) rfl)) rfl
set_option maxRecDepth 20000 in
theorem qc_X11_endedLast : Cond.code yX11_endedLast cX11_endedLast 5 (some FieldType.int) ∈ WL := wl_of (in_t6 (List.mem_of_getElem? (i := 134) rfl)) rfl
set_option maxRecDepth 20000 in
theorem qm_X11_202 : Cond.methodLink RX11 202 yX11_isOf ∈ WL := wl_of (in_t6 (List.mem_of_getElem? (i := 135) rfl)) rfl
set_option maxRecDepth 20000 in
theorem qi_X11_isOf : Cond.instanceMethod yX11_isOf ∈ WL := wl_of (in_t6 (List.mem_of_getElem? (i := 137) rfl)) rfl
set_option maxRecDepth 20000 in
theorem qc_X11_isOf : Cond.code yX11_isOf cX11_isOf 4 (some FieldType.boolean) ∈ WL := wl_of (in_t6 (List.mem_of_getElem? (i := 138) rfl)) rfl
set_option maxRecDepth 20000 in
theorem qm_X11_196 : Cond.methodLink RX11 196 yX11_ofLicence ∈ WL := wl_of (in_t6 (List.mem_of_getElem? (i := 139) rfl)) rfl
set_option maxRecDepth 20000 in
theorem qi_X11_ofLicence : Cond.instanceMethod yX11_ofLicence ∈ WL := wl_of (in_t6 (List.mem_of_getElem? (i := 141) rfl)) rfl
set_option maxRecDepth 20000 in
theorem qc_X11_ofLicence : Cond.code yX11_ofLicence cX11_ofLicence 3 (some FieldType.int) ∈ WL := wl_of (in_t6 (List.mem_of_getElem? (i := 142) rfl)) rfl
set_option maxRecDepth 20000 in
theorem qm_X11_48 : Cond.methodLink RX11 48 yX11_licenceAt ∈ WL := wl_of (in_t6 (List.mem_of_getElem? (i := 143) rfl)) rfl
set_option maxRecDepth 20000 in
theorem qt_X11_licenceAt : Cond.static yX11_licenceAt ∈ WL := wl_of (in_t6 (List.mem_of_getElem? (i := 144) rfl)) rfl
set_option maxRecDepth 20000 in
theorem qc_X11_licenceAt : Cond.code yX11_licenceAt cX11_licenceAt 2 (some FieldType.int) ∈ WL := wl_of (in_t6 (List.mem_of_getElem? (i := 145) rfl)) rfl
set_option maxRecDepth 20000 in
theorem qm_X11_199 : Cond.methodLink RX11 199 yX11_isOpen ∈ WL := wl_of (in_t6 (List.mem_of_getElem? (i := 146) rfl)) rfl
set_option maxRecDepth 20000 in
theorem qi_X11_isOpen : Cond.instanceMethod yX11_isOpen ∈ WL := wl_of (in_t6 (List.mem_of_getElem? (i := 148) rfl)) rfl
set_option maxRecDepth 20000 in
theorem qc_X11_isOpen : Cond.code yX11_isOpen cX11_isOpen 2 (some FieldType.boolean) ∈ WL := wl_of (in_t6 (List.mem_of_getElem? (i := 149) rfl)) rfl
set_option maxRecDepth 20000 in
theorem qm_X11_209 : Cond.methodLink RX11 209 yX11_isIdleBy ∈ WL := wl_of (in_t6 (List.mem_of_getElem? (i := 150) rfl)) rfl
set_option maxRecDepth 20000 in
theorem qi_X11_isIdleBy : Cond.instanceMethod yX11_isIdleBy ∈ WL := wl_of (in_t6 (List.mem_of_getElem? (i := 152) rfl)) rfl
set_option maxRecDepth 20000 in
theorem qc_X11_isIdleBy : Cond.code yX11_isIdleBy cX11_isIdleBy 2 (some FieldType.boolean) ∈ WL := wl_of (in_t6 (List.mem_of_getElem? (i := 153) rfl)) rfl
set_option maxRecDepth 20000 in
theorem qm_X11_226 : Cond.methodLink RX11 226 yX11_ofOrigin ∈ WL := wl_of (in_t6 (List.mem_of_getElem? (i := 154) rfl)) rfl
set_option maxRecDepth 20000 in
theorem qi_X11_ofOrigin : Cond.instanceMethod yX11_ofOrigin ∈ WL := wl_of (in_t6 (List.mem_of_getElem? (i := 156) rfl)) rfl
set_option maxRecDepth 20000 in
theorem qc_X11_ofOrigin : Cond.code yX11_ofOrigin cX11_ofOrigin 3 (some FieldType.int) ∈ WL := wl_of (in_t6 (List.mem_of_getElem? (i := 157) rfl)) rfl
set_option maxRecDepth 20000 in
theorem qm_X11_242 : Cond.methodLink RX11 242 yX11_keepsPast ∈ WL := wl_of (in_t6 (List.mem_of_getElem? (i := 158) rfl)) rfl
set_option maxRecDepth 20000 in
theorem qi_X11_keepsPast : Cond.instanceMethod yX11_keepsPast ∈ WL := wl_of (in_t6 (List.mem_of_getElem? (i := 160) rfl)) rfl
set_option maxRecDepth 20000 in
theorem qc_X11_keepsPast : Cond.code yX11_keepsPast cX11_keepsPast 2 (none : Option FieldType) ∈ WL := wl_of (in_t6 (List.mem_of_getElem? (i := 161) rfl)) rfl
set_option maxRecDepth 20000 in
theorem qm_X11_245 : Cond.methodLink RX11 245 yX11_issues ∈ WL := wl_of (in_t6 (List.mem_of_getElem? (i := 162) rfl)) rfl
set_option maxRecDepth 20000 in
theorem qi_X11_issues : Cond.instanceMethod yX11_issues ∈ WL := wl_of (in_t6 (List.mem_of_getElem? (i := 164) rfl)) rfl
set_option maxRecDepth 20000 in
theorem qc_X11_issues : Cond.code yX11_issues cX11_issues 7 (some FieldType.int) ∈ WL := wl_of (in_t6 (List.mem_of_getElem? (i := 165) rfl)) rfl
set_option maxRecDepth 20000 in
theorem qm_X11_193 : Cond.methodLink RX11 193 yJ9_min_f86c9 ∈ WL := wl_of (in_t6 (List.mem_of_getElem? (i := 166) rfl)) rfl
set_option maxRecDepth 20000 in
theorem qt_J9_min_f86c9 : Cond.static yJ9_min_f86c9 ∈ WL := wl_of (in_t6 (List.mem_of_getElem? (i := 167) rfl)) rfl
set_option maxRecDepth 20000 in
theorem qc_J9_min_f86c9 : Cond.code yJ9_min_f86c9 cJ9_min_f86c9 4 (some FieldType.long) ∈ WL := wl_of (in_t6 (List.mem_of_getElem? (i := 168) rfl)) rfl
set_option maxRecDepth 20000 in
theorem qm_X11_232 : Cond.methodLink RX11 232 yX11_newLicence ∈ WL := wl_of (in_t6 (List.mem_of_getElem? (i := 169) rfl)) rfl
set_option maxRecDepth 20000 in
theorem qi_X11_newLicence : Cond.instanceMethod yX11_newLicence ∈ WL := wl_of (in_t6 (List.mem_of_getElem? (i := 171) rfl)) rfl
set_option maxRecDepth 20000 in
theorem qc_X11_newLicence : Cond.code yX11_newLicence cX11_newLicence 10 (some FieldType.int) ∈ WL := wl_of (in_t6 (List.mem_of_getElem? (i := 172) rfl)) rfl
set_option maxRecDepth 20000 in
theorem qm_L_133 : Cond.methodLink RL 133 yX11_would ∈ WL := wl_of (in_t6 (List.mem_of_getElem? (i := 173) rfl)) rfl
set_option maxRecDepth 20000 in
theorem qi_X11_would : Cond.instanceMethod yX11_would ∈ WL := wl_of (in_t6 (List.mem_of_getElem? (i := 174) rfl)) rfl
set_option maxRecDepth 20000 in
theorem qs_X11_would : Cond.selects RX11 yX11_would yX11_would ∈ WL := wl_of (in_t6 (List.mem_of_getElem? (i := 175) rfl)) rfl
set_option maxRecDepth 20000 in
theorem qc_X11_would : Cond.code yX11_would cX11_would 4 (some FieldType.int) ∈ WL := wl_of (in_t6 (List.mem_of_getElem? (i := 176) rfl)) rfl
set_option maxRecDepth 20000 in
theorem qm_L_37 : Cond.methodLink RL 37 yX11_use ∈ WL := wl_of (in_t6 (List.mem_of_getElem? (i := 177) rfl)) rfl
set_option maxRecDepth 20000 in
theorem qi_X11_use : Cond.instanceMethod yX11_use ∈ WL := wl_of (in_t6 (List.mem_of_getElem? (i := 178) rfl)) rfl
set_option maxRecDepth 20000 in
theorem qs_X11_use : Cond.selects RX11 yX11_use yX11_use ∈ WL := wl_of (in_t6 (List.mem_of_getElem? (i := 179) rfl)) rfl
set_option maxRecDepth 20000 in
theorem qc_X11_use : Cond.code yX11_use cX11_use 7 (some FieldType.int) ∈ WL := wl_of (in_t6 (List.mem_of_getElem? (i := 180) rfl)) rfl
set_option maxRecDepth 20000 in
theorem qm_X11_248 : Cond.methodLink RX11 248 yX11_isLicence ∈ WL := wl_of (in_t6 (List.mem_of_getElem? (i := 181) rfl)) rfl
set_option maxRecDepth 20000 in
theorem qi_X11_isLicence : Cond.instanceMethod yX11_isLicence ∈ WL := wl_of (in_t6 (List.mem_of_getElem? (i := 183) rfl)) rfl
set_option maxRecDepth 20000 in
theorem qc_X11_isLicence : Cond.code yX11_isLicence cX11_isLicence 2 (some FieldType.boolean) ∈ WL := wl_of (in_t6 (List.mem_of_getElem? (i := 184) rfl)) rfl
set_option maxRecDepth 20000 in
theorem qm_X11_214 : Cond.methodLink RX11 214 yX11_leftOf ∈ WL := wl_of (in_t6 (List.mem_of_getElem? (i := 185) rfl)) rfl
set_option maxRecDepth 20000 in
theorem qi_X11_leftOf : Cond.instanceMethod yX11_leftOf ∈ WL := wl_of (in_t6 (List.mem_of_getElem? (i := 187) rfl)) rfl
set_option maxRecDepth 20000 in
theorem qc_X11_leftOf : Cond.code yX11_leftOf cX11_leftOf 2 (some FieldType.int) ∈ WL := wl_of (in_t6 (List.mem_of_getElem? (i := 188) rfl)) rfl
set_option maxRecDepth 20000 in
theorem qk_X11_251 : Cond.constantLong RX11 251 (30) ∈ WL := wl_of (in_t6 (List.mem_of_getElem? (i := 189) rfl)) rfl
set_option maxRecDepth 20000 in
theorem qm_X11_220 : Cond.methodLink RX11 220 yX11_ends ∈ WL := wl_of (in_t6 (List.mem_of_getElem? (i := 190) rfl)) rfl
set_option maxRecDepth 20000 in
theorem qi_X11_ends : Cond.instanceMethod yX11_ends ∈ WL := wl_of (in_t6 (List.mem_of_getElem? (i := 192) rfl)) rfl
set_option maxRecDepth 20000 in
theorem qc_X11_ends : Cond.code yX11_ends cX11_ends 3 (none : Option FieldType) ∈ WL := wl_of (in_t6 (List.mem_of_getElem? (i := 193) rfl)) rfl
set_option maxRecDepth 20000 in
theorem qm_L_41 : Cond.methodLink RL 41 yX11_giveBack ∈ WL := wl_of (in_t6 (List.mem_of_getElem? (i := 194) rfl)) rfl
set_option maxRecDepth 20000 in
theorem qi_X11_giveBack : Cond.instanceMethod yX11_giveBack ∈ WL := wl_of (in_t6 (List.mem_of_getElem? (i := 195) rfl)) rfl
set_option maxRecDepth 20000 in
theorem qs_X11_giveBack : Cond.selects RX11 yX11_giveBack yX11_giveBack ∈ WL := wl_of (in_t6 (List.mem_of_getElem? (i := 196) rfl)) rfl
set_option maxRecDepth 20000 in
theorem qc_X11_giveBack : Cond.code yX11_giveBack cX11_giveBack 2 (some FieldType.int) ∈ WL := wl_of (in_t6 (List.mem_of_getElem? (i := 197) rfl)) rfl
set_option maxRecDepth 20000 in
theorem qm_X11_253 : Cond.methodLink RX11 253 yX11_comesBack ∈ WL := wl_of (in_t6 (List.mem_of_getElem? (i := 198) rfl)) rfl
set_option maxRecDepth 20000 in
theorem qi_X11_comesBack : Cond.instanceMethod yX11_comesBack ∈ WL := wl_of (in_t6 (List.mem_of_getElem? (i := 200) rfl)) rfl
set_option maxRecDepth 20000 in
theorem qc_X11_comesBack : Cond.code yX11_comesBack cX11_comesBack 5 (some FieldType.int) ∈ WL := wl_of (in_t6 (List.mem_of_getElem? (i := 201) rfl)) rfl
set_option maxRecDepth 20000 in
theorem qm_X11_217 : Cond.methodLink RX11 217 yX11_isOfThisPeriod ∈ WL := wl_of (in_t6 (List.mem_of_getElem? (i := 202) rfl)) rfl
set_option maxRecDepth 20000 in
theorem qi_X11_isOfThisPeriod : Cond.instanceMethod yX11_isOfThisPeriod ∈ WL := wl_of (in_t6 (List.mem_of_getElem? (i := 204) rfl)) rfl
set_option maxRecDepth 20000 in
theorem qc_X11_isOfThisPeriod : Cond.code yX11_isOfThisPeriod cX11_isOfThisPeriod 2 (some FieldType.boolean) ∈ WL := wl_of (in_t6 (List.mem_of_getElem? (i := 205) rfl)) rfl
set_option maxRecDepth 20000 in
theorem qk_X11_212 : Cond.constantLong RX11 212 (90) ∈ WL := wl_of (in_t6 (List.mem_of_getElem? (i := 206) rfl)) rfl
set_option maxRecDepth 20000 in
theorem qm_L_45 : Cond.methodLink RL 45 yX11_hand ∈ WL := wl_of (in_t6 (List.mem_of_getElem? (i := 207) rfl)) rfl
set_option maxRecDepth 20000 in
theorem qi_X11_hand : Cond.instanceMethod yX11_hand ∈ WL := wl_of (in_t6 (List.mem_of_getElem? (i := 208) rfl)) rfl
set_option maxRecDepth 20000 in
theorem qs_X11_hand : Cond.selects RX11 yX11_hand yX11_hand ∈ WL := wl_of (in_t6 (List.mem_of_getElem? (i := 209) rfl)) rfl
set_option maxRecDepth 20000 in
theorem qc_X11_hand : Cond.code yX11_hand cX11_hand 5 (some FieldType.int) ∈ WL := wl_of (in_t6 (List.mem_of_getElem? (i := 210) rfl)) rfl
set_option maxRecDepth 20000 in
theorem qm_L_49 : Cond.methodLink RL 49 yX11_merge ∈ WL := wl_of (in_t6 (List.mem_of_getElem? (i := 211) rfl)) rfl
set_option maxRecDepth 20000 in
theorem qi_X11_merge : Cond.instanceMethod yX11_merge ∈ WL := wl_of (in_t6 (List.mem_of_getElem? (i := 212) rfl)) rfl
set_option maxRecDepth 20000 in
theorem qs_X11_merge : Cond.selects RX11 yX11_merge yX11_merge ∈ WL := wl_of (in_t6 (List.mem_of_getElem? (i := 213) rfl)) rfl
set_option maxRecDepth 20000 in
theorem qc_X11_merge : Cond.code yX11_merge cX11_merge 4 (some FieldType.int) ∈ WL := wl_of (in_t6 (List.mem_of_getElem? (i := 214) rfl)) rfl
set_option maxRecDepth 20000 in
theorem qm_X11_256 : Cond.methodLink RX11 256 yX11_goesOver ∈ WL := wl_of (in_t6 (List.mem_of_getElem? (i := 215) rfl)) rfl
set_option maxRecDepth 20000 in
theorem qi_X11_goesOver : Cond.instanceMethod yX11_goesOver ∈ WL := wl_of (in_t6 (List.mem_of_getElem? (i := 217) rfl)) rfl
set_option maxRecDepth 20000 in
theorem qc_X11_goesOver : Cond.code yX11_goesOver cX11_goesOver 4 (none : Option FieldType) ∈ WL := wl_of (in_t6 (List.mem_of_getElem? (i := 218) rfl)) rfl
set_option maxRecDepth 20000 in
theorem qm_L_54 : Cond.methodLink RL 54 yX11_lend ∈ WL := wl_of (in_t6 (List.mem_of_getElem? (i := 219) rfl)) rfl
set_option maxRecDepth 20000 in
theorem qi_X11_lend : Cond.instanceMethod yX11_lend ∈ WL := wl_of (in_t6 (List.mem_of_getElem? (i := 220) rfl)) rfl
set_option maxRecDepth 20000 in
theorem qs_X11_lend : Cond.selects RX11 yX11_lend yX11_lend ∈ WL := wl_of (in_t6 (List.mem_of_getElem? (i := 221) rfl)) rfl
set_option maxRecDepth 20000 in
theorem qc_X11_lend : Cond.code yX11_lend cX11_lend 5 (some FieldType.int) ∈ WL := wl_of (in_t6 (List.mem_of_getElem? (i := 222) rfl)) rfl
set_option maxRecDepth 20000 in
theorem qm_L_59 : Cond.methodLink RL 59 yX11_excess ∈ WL := wl_of (in_t6 (List.mem_of_getElem? (i := 223) rfl)) rfl
set_option maxRecDepth 20000 in
theorem qi_X11_excess : Cond.instanceMethod yX11_excess ∈ WL := wl_of (in_t6 (List.mem_of_getElem? (i := 224) rfl)) rfl
set_option maxRecDepth 20000 in
theorem qs_X11_excess : Cond.selects RX11 yX11_excess yX11_excess ∈ WL := wl_of (in_t6 (List.mem_of_getElem? (i := 225) rfl)) rfl
set_option maxRecDepth 20000 in
theorem qc_X11_excess : Cond.code yX11_excess cX11_excess 7 (some FieldType.long) ∈ WL := wl_of (in_t6 (List.mem_of_getElem? (i := 226) rfl)) rfl
set_option maxRecDepth 20000 in
theorem qk_X11_266 : Cond.constantLong RX11 266 (9999) ∈ WL := wl_of (in_t6 (List.mem_of_getElem? (i := 227) rfl)) rfl
set_option maxRecDepth 20000 in
theorem qk_X11_268 : Cond.constantLong RX11 268 (-1) ∈ WL := wl_of (in_t6 (List.mem_of_getElem? (i := 228) rfl)) rfl
set_option maxRecDepth 20000 in
theorem qk_X11_270 : Cond.constantDouble RX11 270 (4652007308841189376) ∈ WL := wl_of (in_t6 (List.mem_of_getElem? (i := 229) rfl)) rfl
set_option maxRecDepth 20000 in
theorem qm_X11_272 : Cond.methodLink RX11 272 yX11_owedOf ∈ WL := wl_of (in_t6 (List.mem_of_getElem? (i := 230) rfl)) rfl
set_option maxRecDepth 20000 in
theorem qi_X11_owedOf : Cond.instanceMethod yX11_owedOf ∈ WL := wl_of (in_t6 (List.mem_of_getElem? (i := 232) rfl)) rfl
set_option maxRecDepth 20000 in
theorem qc_X11_owedOf : Cond.code yX11_owedOf cX11_owedOf 2 (some FieldType.double) ∈ WL := wl_of (in_t6 (List.mem_of_getElem? (i := 233) rfl)) rfl
set_option maxRecDepth 20000 in
theorem qm_X11_260 : Cond.methodLink RX11 260 ⟨"java/lang/Double", "longBitsToDouble", "(J)D"⟩ ∈ WL := wl_of (in_t6 (List.mem_of_getElem? (i := 234) rfl)) rfl
set_option maxRecDepth 20000 in
theorem qt_java_lang_Double_longBitsToDouble : Cond.static ⟨"java/lang/Double", "longBitsToDouble", "(J)D"⟩ ∈ WL := wl_of (in_t6 (List.mem_of_getElem? (i := 235) rfl)) rfl
set_option maxRecDepth 20000 in
theorem qv_java_lang_Double_longBitsToDouble : Cond.native ⟨"java/lang/Double", "longBitsToDouble", "(J)D"⟩ ∈ WL := wl_of (in_t6 (List.mem_of_getElem? (i := 236) rfl)) rfl
set_option maxRecDepth 20000 in
theorem qm_X11_276 : Cond.methodLink RX11 276 yJxe99ae_doubleToLongBits_ccdee ∈ WL := wl_of (in_t6 (List.mem_of_getElem? (i := 237) rfl)) rfl
set_option maxRecDepth 20000 in
theorem qt_Jxe99ae_doubleToLongBits_ccdee : Cond.static yJxe99ae_doubleToLongBits_ccdee ∈ WL := wl_of (in_t6 (List.mem_of_getElem? (i := 238) rfl)) rfl
set_option maxRecDepth 20000 in
theorem qc_Jxe99ae_doubleToLongBits_ccdee : Cond.code yJxe99ae_doubleToLongBits_ccdee cJxe99ae_doubleToLongBits_ccdee 2 (some FieldType.long) ∈ WL := wl_of (in_t6 (List.mem_of_getElem? (i := 239) rfl)) rfl
set_option maxRecDepth 20000 in
theorem qm_Jxe99ae_122 : Cond.methodLink RJxe99ae 122 yJxe99ae_isNaN_b9ae7 ∈ WL := wl_of (in_t7 (List.mem_of_getElem? (i := 0) rfl)) rfl
set_option maxRecDepth 20000 in
theorem qt_Jxe99ae_isNaN_b9ae7 : Cond.static yJxe99ae_isNaN_b9ae7 ∈ WL := wl_of (in_t7 (List.mem_of_getElem? (i := 1) rfl)) rfl
set_option maxRecDepth 20000 in
theorem qc_Jxe99ae_isNaN_b9ae7 : Cond.code yJxe99ae_isNaN_b9ae7 cJxe99ae_isNaN_b9ae7 2 (some FieldType.boolean) ∈ WL := wl_of (in_t7 (List.mem_of_getElem? (i := 2) rfl)) rfl
set_option maxRecDepth 20000 in
theorem qm_Jxe99ae_134 : Cond.methodLink RJxe99ae 134 ⟨"java/lang/Double", "doubleToRawLongBits", "(D)J"⟩ ∈ WL := wl_of (in_t7 (List.mem_of_getElem? (i := 3) rfl)) rfl
set_option maxRecDepth 20000 in
theorem qt_java_lang_Double_doubleToRawLongBits : Cond.static ⟨"java/lang/Double", "doubleToRawLongBits", "(D)J"⟩ ∈ WL := wl_of (in_t7 (List.mem_of_getElem? (i := 4) rfl)) rfl
set_option maxRecDepth 20000 in
theorem qv_java_lang_Double_doubleToRawLongBits : Cond.native ⟨"java/lang/Double", "doubleToRawLongBits", "(D)J"⟩ ∈ WL := wl_of (in_t7 (List.mem_of_getElem? (i := 5) rfl)) rfl
set_option maxRecDepth 20000 in
theorem qk_Jxe99ae_137 : Cond.constantLong RJxe99ae 137 (9221120237041090560) ∈ WL := wl_of (in_t7 (List.mem_of_getElem? (i := 6) rfl)) rfl
set_option maxRecDepth 20000 in
theorem qm_L_63 : Cond.methodLink RL 63 yX11_days ∈ WL := wl_of (in_t7 (List.mem_of_getElem? (i := 7) rfl)) rfl
set_option maxRecDepth 20000 in
theorem qi_X11_days : Cond.instanceMethod yX11_days ∈ WL := wl_of (in_t7 (List.mem_of_getElem? (i := 8) rfl)) rfl
set_option maxRecDepth 20000 in
theorem qs_X11_days : Cond.selects RX11 yX11_days yX11_days ∈ WL := wl_of (in_t7 (List.mem_of_getElem? (i := 9) rfl)) rfl
set_option maxRecDepth 20000 in
theorem qc_X11_days : Cond.code yX11_days cX11_days 4 (some FieldType.int) ∈ WL := wl_of (in_t7 (List.mem_of_getElem? (i := 10) rfl)) rfl
set_option maxRecDepth 20000 in
theorem qm_X11_286 : Cond.methodLink RX11 286 yX11_hasScheme ∈ WL := wl_of (in_t7 (List.mem_of_getElem? (i := 11) rfl)) rfl
set_option maxRecDepth 20000 in
theorem qi_X11_hasScheme : Cond.instanceMethod yX11_hasScheme ∈ WL := wl_of (in_t7 (List.mem_of_getElem? (i := 13) rfl)) rfl
set_option maxRecDepth 20000 in
theorem qc_X11_hasScheme : Cond.code yX11_hasScheme cX11_hasScheme 1 (some FieldType.boolean) ∈ WL := wl_of (in_t7 (List.mem_of_getElem? (i := 14) rfl)) rfl
set_option maxRecDepth 20000 in
theorem qk_X11_289 : Cond.constantLong RX11 289 (3600) ∈ WL := wl_of (in_t7 (List.mem_of_getElem? (i := 15) rfl)) rfl
set_option maxRecDepth 20000 in
theorem qm_X11_291 : Cond.methodLink RX11 291 yX11_dayGoes ∈ WL := wl_of (in_t7 (List.mem_of_getElem? (i := 16) rfl)) rfl
set_option maxRecDepth 20000 in
theorem qi_X11_dayGoes : Cond.instanceMethod yX11_dayGoes ∈ WL := wl_of (in_t7 (List.mem_of_getElem? (i := 18) rfl)) rfl
set_option maxRecDepth 20000 in
theorem qc_X11_dayGoes : Cond.code yX11_dayGoes cX11_dayGoes 3 (some FieldType.int) ∈ WL := wl_of (in_t7 (List.mem_of_getElem? (i := 19) rfl)) rfl
set_option maxRecDepth 20000 in
theorem qm_X11_280 : Cond.methodLink RX11 280 yX11_logs ∈ WL := wl_of (in_t7 (List.mem_of_getElem? (i := 20) rfl)) rfl
set_option maxRecDepth 20000 in
theorem qi_X11_logs : Cond.instanceMethod yX11_logs ∈ WL := wl_of (in_t7 (List.mem_of_getElem? (i := 22) rfl)) rfl
set_option maxRecDepth 20000 in
theorem qc_X11_logs : Cond.code yX11_logs cX11_logs 4 (none : Option FieldType) ∈ WL := wl_of (in_t7 (List.mem_of_getElem? (i := 23) rfl)) rfl
set_option maxRecDepth 20000 in
theorem qm_X11_283 : Cond.methodLink RX11 283 yX11_yearBegins ∈ WL := wl_of (in_t7 (List.mem_of_getElem? (i := 24) rfl)) rfl
set_option maxRecDepth 20000 in
theorem qi_X11_yearBegins : Cond.instanceMethod yX11_yearBegins ∈ WL := wl_of (in_t7 (List.mem_of_getElem? (i := 26) rfl)) rfl
set_option maxRecDepth 20000 in
theorem qc_X11_yearBegins : Cond.code yX11_yearBegins cX11_yearBegins 4 (none : Option FieldType) ∈ WL := wl_of (in_t7 (List.mem_of_getElem? (i := 27) rfl)) rfl
set_option maxRecDepth 20000 in
theorem qm_L_67 : Cond.methodLink RL 67 yX11_widen ∈ WL := wl_of (in_t7 (List.mem_of_getElem? (i := 28) rfl)) rfl
set_option maxRecDepth 20000 in
theorem qi_X11_widen : Cond.instanceMethod yX11_widen ∈ WL := wl_of (in_t7 (List.mem_of_getElem? (i := 29) rfl)) rfl
set_option maxRecDepth 20000 in
theorem qs_X11_widen : Cond.selects RX11 yX11_widen yX11_widen ∈ WL := wl_of (in_t7 (List.mem_of_getElem? (i := 30) rfl)) rfl
set_option maxRecDepth 20000 in
theorem qc_X11_widen : Cond.code yX11_widen cX11_widen 3 (some FieldType.int) ∈ WL := wl_of (in_t7 (List.mem_of_getElem? (i := 31) rfl)) rfl
set_option maxRecDepth 20000 in
theorem qm_X11_294 : Cond.methodLink RX11 294 yX11_becomes ∈ WL := wl_of (in_t7 (List.mem_of_getElem? (i := 32) rfl)) rfl
set_option maxRecDepth 20000 in
theorem qi_X11_becomes : Cond.instanceMethod yX11_becomes ∈ WL := wl_of (in_t7 (List.mem_of_getElem? (i := 34) rfl)) rfl
set_option maxRecDepth 20000 in
theorem qc_X11_becomes : Cond.code yX11_becomes cX11_becomes 4 (some FieldType.int) ∈ WL := wl_of (in_t7 (List.mem_of_getElem? (i := 35) rfl)) rfl
set_option maxRecDepth 20000 in
theorem qm_L_71 : Cond.methodLink RL 71 yX11_set ∈ WL := wl_of (in_t7 (List.mem_of_getElem? (i := 36) rfl)) rfl
set_option maxRecDepth 20000 in
theorem qi_X11_set : Cond.instanceMethod yX11_set ∈ WL := wl_of (in_t7 (List.mem_of_getElem? (i := 37) rfl)) rfl
set_option maxRecDepth 20000 in
theorem qs_X11_set : Cond.selects RX11 yX11_set yX11_set ∈ WL := wl_of (in_t7 (List.mem_of_getElem? (i := 38) rfl)) rfl
set_option maxRecDepth 20000 in
theorem qc_X11_set : Cond.code yX11_set cX11_set 3 (some FieldType.int) ∈ WL := wl_of (in_t7 (List.mem_of_getElem? (i := 39) rfl)) rfl
set_option maxRecDepth 20000 in
theorem qk_X11_297 : Cond.constantLong RX11 297 (5) ∈ WL := wl_of (in_t7 (List.mem_of_getElem? (i := 40) rfl)) rfl
set_option maxRecDepth 20000 in
theorem qm_L_87 : Cond.methodLink RL 87 yX11_told ∈ WL := wl_of (in_t7 (List.mem_of_getElem? (i := 41) rfl)) rfl
set_option maxRecDepth 20000 in
theorem qi_X11_told : Cond.instanceMethod yX11_told ∈ WL := wl_of (in_t7 (List.mem_of_getElem? (i := 42) rfl)) rfl
set_option maxRecDepth 20000 in
theorem qs_X11_told : Cond.selects RX11 yX11_told yX11_told ∈ WL := wl_of (in_t7 (List.mem_of_getElem? (i := 43) rfl)) rfl
set_option maxRecDepth 20000 in
theorem qc_X11_told : Cond.code yX11_told cX11_told 2 (some FieldType.int) ∈ WL := wl_of (in_t7 (List.mem_of_getElem? (i := 44) rfl)) rfl
set_option maxRecDepth 20000 in
theorem qm_L_91 : Cond.methodLink RL 91 yX11_origin ∈ WL := wl_of (in_t7 (List.mem_of_getElem? (i := 45) rfl)) rfl
set_option maxRecDepth 20000 in
theorem qi_X11_origin : Cond.instanceMethod yX11_origin ∈ WL := wl_of (in_t7 (List.mem_of_getElem? (i := 46) rfl)) rfl
set_option maxRecDepth 20000 in
theorem qs_X11_origin : Cond.selects RX11 yX11_origin yX11_origin ∈ WL := wl_of (in_t7 (List.mem_of_getElem? (i := 47) rfl)) rfl
set_option maxRecDepth 20000 in
theorem qc_X11_origin : Cond.code yX11_origin cX11_origin 3 (some FieldType.int) ∈ WL := wl_of (in_t7 (List.mem_of_getElem? (i := 48) rfl)) rfl
set_option maxRecDepth 20000 in
theorem qk_X11_299 : Cond.constantLong RX11 299 (7) ∈ WL := wl_of (in_t7 (List.mem_of_getElem? (i := 49) rfl)) rfl
set_option maxRecDepth 20000 in
theorem qm_L_95 : Cond.methodLink RL 95 yX11_past ∈ WL := wl_of (in_t7 (List.mem_of_getElem? (i := 50) rfl)) rfl
set_option maxRecDepth 20000 in
theorem qi_X11_past : Cond.instanceMethod yX11_past ∈ WL := wl_of (in_t7 (List.mem_of_getElem? (i := 51) rfl)) rfl
set_option maxRecDepth 20000 in
theorem qs_X11_past : Cond.selects RX11 yX11_past yX11_past ∈ WL := wl_of (in_t7 (List.mem_of_getElem? (i := 52) rfl)) rfl
set_option maxRecDepth 20000 in
theorem qc_X11_past : Cond.code yX11_past cX11_past 4 (some FieldType.int) ∈ WL := wl_of (in_t7 (List.mem_of_getElem? (i := 53) rfl)) rfl
set_option maxRecDepth 20000 in
theorem qk_X11_301 : Cond.constantLong RX11 301 (3) ∈ WL := wl_of (in_t7 (List.mem_of_getElem? (i := 54) rfl)) rfl
set_option maxRecDepth 20000 in
theorem qm_L_99 : Cond.methodLink RL 99 yX11_sort ∈ WL := wl_of (in_t7 (List.mem_of_getElem? (i := 55) rfl)) rfl
set_option maxRecDepth 20000 in
theorem qi_X11_sort : Cond.instanceMethod yX11_sort ∈ WL := wl_of (in_t7 (List.mem_of_getElem? (i := 56) rfl)) rfl
set_option maxRecDepth 20000 in
theorem qs_X11_sort : Cond.selects RX11 yX11_sort yX11_sort ∈ WL := wl_of (in_t7 (List.mem_of_getElem? (i := 57) rfl)) rfl
set_option maxRecDepth 20000 in
theorem qc_X11_sort : Cond.code yX11_sort cX11_sort 3 (some FieldType.int) ∈ WL := wl_of (in_t7 (List.mem_of_getElem? (i := 58) rfl)) rfl
set_option maxRecDepth 20000 in
theorem qm_L_104 : Cond.methodLink RL 104 yX11_mean ∈ WL := wl_of (in_t7 (List.mem_of_getElem? (i := 59) rfl)) rfl
set_option maxRecDepth 20000 in
theorem qi_X11_mean : Cond.instanceMethod yX11_mean ∈ WL := wl_of (in_t7 (List.mem_of_getElem? (i := 60) rfl)) rfl
set_option maxRecDepth 20000 in
theorem qs_X11_mean : Cond.selects RX11 yX11_mean yX11_mean ∈ WL := wl_of (in_t7 (List.mem_of_getElem? (i := 61) rfl)) rfl
set_option maxRecDepth 20000 in
theorem qc_X11_mean : Cond.code yX11_mean cX11_mean 3 (some FieldType.long) ∈ WL := wl_of (in_t7 (List.mem_of_getElem? (i := 62) rfl)) rfl
set_option maxRecDepth 20000 in
theorem qk_X11_303 : Cond.constantDouble RX11 303 (4613937818241073152) ∈ WL := wl_of (in_t7 (List.mem_of_getElem? (i := 63) rfl)) rfl
set_option maxRecDepth 20000 in
theorem qm_L_108 : Cond.methodLink RL 108 yX11_share ∈ WL := wl_of (in_t7 (List.mem_of_getElem? (i := 64) rfl)) rfl
set_option maxRecDepth 20000 in
theorem qi_X11_share : Cond.instanceMethod yX11_share ∈ WL := wl_of (in_t7 (List.mem_of_getElem? (i := 65) rfl)) rfl
set_option maxRecDepth 20000 in
theorem qs_X11_share : Cond.selects RX11 yX11_share yX11_share ∈ WL := wl_of (in_t7 (List.mem_of_getElem? (i := 66) rfl)) rfl
set_option maxRecDepth 20000 in
theorem qc_X11_share : Cond.code yX11_share cX11_share 4 (some FieldType.int) ∈ WL := wl_of (in_t7 (List.mem_of_getElem? (i := 67) rfl)) rfl
set_option maxRecDepth 20000 in
theorem qm_L_112 : Cond.methodLink RL 112 yX11_licence ∈ WL := wl_of (in_t7 (List.mem_of_getElem? (i := 68) rfl)) rfl
set_option maxRecDepth 20000 in
theorem qi_X11_licence : Cond.instanceMethod yX11_licence ∈ WL := wl_of (in_t7 (List.mem_of_getElem? (i := 69) rfl)) rfl
set_option maxRecDepth 20000 in
theorem qs_X11_licence : Cond.selects RX11 yX11_licence yX11_licence ∈ WL := wl_of (in_t7 (List.mem_of_getElem? (i := 70) rfl)) rfl
set_option maxRecDepth 20000 in
theorem qc_X11_licence : Cond.code yX11_licence cX11_licence 3 (some FieldType.int) ∈ WL := wl_of (in_t7 (List.mem_of_getElem? (i := 71) rfl)) rfl
set_option maxRecDepth 20000 in
theorem qm_L_116 : Cond.methodLink RL 116 yX11_month ∈ WL := wl_of (in_t7 (List.mem_of_getElem? (i := 72) rfl)) rfl
set_option maxRecDepth 20000 in
theorem qi_X11_month : Cond.instanceMethod yX11_month ∈ WL := wl_of (in_t7 (List.mem_of_getElem? (i := 73) rfl)) rfl
set_option maxRecDepth 20000 in
theorem qs_X11_month : Cond.selects RX11 yX11_month yX11_month ∈ WL := wl_of (in_t7 (List.mem_of_getElem? (i := 74) rfl)) rfl
set_option maxRecDepth 20000 in
theorem qc_X11_month : Cond.code yX11_month cX11_month 3 (some FieldType.int) ∈ WL := wl_of (in_t7 (List.mem_of_getElem? (i := 75) rfl)) rfl
set_option maxRecDepth 20000 in
theorem qk_X11_305 : Cond.constantLong RX11 305 (11) ∈ WL := wl_of (in_t7 (List.mem_of_getElem? (i := 76) rfl)) rfl
set_option maxRecDepth 20000 in
theorem qm_L_121 : Cond.methodLink RL 121 yX11_rate ∈ WL := wl_of (in_t7 (List.mem_of_getElem? (i := 77) rfl)) rfl
set_option maxRecDepth 20000 in
theorem qi_X11_rate : Cond.instanceMethod yX11_rate ∈ WL := wl_of (in_t7 (List.mem_of_getElem? (i := 78) rfl)) rfl
set_option maxRecDepth 20000 in
theorem qs_X11_rate : Cond.selects RX11 yX11_rate yX11_rate ∈ WL := wl_of (in_t7 (List.mem_of_getElem? (i := 79) rfl)) rfl
set_option maxRecDepth 20000 in
theorem qc_X11_rate : Cond.code yX11_rate cX11_rate 2 (some FieldType.long) ∈ WL := wl_of (in_t7 (List.mem_of_getElem? (i := 80) rfl)) rfl
set_option maxRecDepth 20000 in
theorem qm_X11_309 : Cond.methodLink RX11 309 yX11_rateOf ∈ WL := wl_of (in_t7 (List.mem_of_getElem? (i := 81) rfl)) rfl
set_option maxRecDepth 20000 in
theorem qi_X11_rateOf : Cond.instanceMethod yX11_rateOf ∈ WL := wl_of (in_t7 (List.mem_of_getElem? (i := 83) rfl)) rfl
set_option maxRecDepth 20000 in
theorem qc_X11_rateOf : Cond.code yX11_rateOf cX11_rateOf 7 (some FieldType.double) ∈ WL := wl_of (in_t7 (List.mem_of_getElem? (i := 84) rfl)) rfl
set_option maxRecDepth 20000 in
theorem qk_X11_307 : Cond.constantDouble RX11 307 (13830554455654793216) ∈ WL := wl_of (in_t7 (List.mem_of_getElem? (i := 85) rfl)) rfl
set_option maxRecDepth 20000 in
theorem qm_L_125 : Cond.methodLink RL 125 yX11_idle ∈ WL := wl_of (in_t7 (List.mem_of_getElem? (i := 86) rfl)) rfl
set_option maxRecDepth 20000 in
theorem qi_X11_idle : Cond.instanceMethod yX11_idle ∈ WL := wl_of (in_t7 (List.mem_of_getElem? (i := 87) rfl)) rfl
set_option maxRecDepth 20000 in
theorem qs_X11_idle : Cond.selects RX11 yX11_idle yX11_idle ∈ WL := wl_of (in_t7 (List.mem_of_getElem? (i := 88) rfl)) rfl
set_option maxRecDepth 20000 in
theorem qc_X11_idle : Cond.code yX11_idle cX11_idle 3 (some FieldType.int) ∈ WL := wl_of (in_t7 (List.mem_of_getElem? (i := 89) rfl)) rfl
set_option maxRecDepth 20000 in
theorem qm_L_129 : Cond.methodLink RL 129 yX11_owed ∈ WL := wl_of (in_t7 (List.mem_of_getElem? (i := 90) rfl)) rfl
set_option maxRecDepth 20000 in
theorem qi_X11_owed : Cond.instanceMethod yX11_owed ∈ WL := wl_of (in_t7 (List.mem_of_getElem? (i := 91) rfl)) rfl
set_option maxRecDepth 20000 in
theorem qs_X11_owed : Cond.selects RX11 yX11_owed yX11_owed ∈ WL := wl_of (in_t7 (List.mem_of_getElem? (i := 92) rfl)) rfl
set_option maxRecDepth 20000 in
theorem qc_X11_owed : Cond.code yX11_owed cX11_owed 2 (some FieldType.long) ∈ WL := wl_of (in_t7 (List.mem_of_getElem? (i := 93) rfl)) rfl
set_option maxRecDepth 20000 in
theorem qm_L_137 : Cond.methodLink RL 137 yX11_lapses ∈ WL := wl_of (in_t7 (List.mem_of_getElem? (i := 94) rfl)) rfl
set_option maxRecDepth 20000 in
theorem qi_X11_lapses : Cond.instanceMethod yX11_lapses ∈ WL := wl_of (in_t7 (List.mem_of_getElem? (i := 95) rfl)) rfl
set_option maxRecDepth 20000 in
theorem qs_X11_lapses : Cond.selects RX11 yX11_lapses yX11_lapses ∈ WL := wl_of (in_t7 (List.mem_of_getElem? (i := 96) rfl)) rfl
set_option maxRecDepth 20000 in
theorem qc_X11_lapses : Cond.code yX11_lapses cX11_lapses 4 (some FieldType.int) ∈ WL := wl_of (in_t7 (List.mem_of_getElem? (i := 97) rfl)) rfl
set_option maxRecDepth 20000 in
theorem qm_L_141 : Cond.methodLink RL 141 yX11_next_ ∈ WL := wl_of (in_t7 (List.mem_of_getElem? (i := 98) rfl)) rfl
set_option maxRecDepth 20000 in
theorem qi_X11_next_ : Cond.instanceMethod yX11_next_ ∈ WL := wl_of (in_t7 (List.mem_of_getElem? (i := 99) rfl)) rfl
set_option maxRecDepth 20000 in
theorem qs_X11_next_ : Cond.selects RX11 yX11_next_ yX11_next_ ∈ WL := wl_of (in_t7 (List.mem_of_getElem? (i := 100) rfl)) rfl
set_option maxRecDepth 20000 in
theorem qc_X11_next_ : Cond.code yX11_next_ cX11_next_ 3 (some FieldType.int) ∈ WL := wl_of (in_t7 (List.mem_of_getElem? (i := 101) rfl)) rfl
set_option maxRecDepth 20000 in
theorem qm_X11_312 : Cond.methodLink RX11 312 yX11_aheadOf ∈ WL := wl_of (in_t7 (List.mem_of_getElem? (i := 102) rfl)) rfl
set_option maxRecDepth 20000 in
theorem qi_X11_aheadOf : Cond.instanceMethod yX11_aheadOf ∈ WL := wl_of (in_t7 (List.mem_of_getElem? (i := 104) rfl)) rfl
set_option maxRecDepth 20000 in
theorem qc_X11_aheadOf : Cond.code yX11_aheadOf cX11_aheadOf 6 (some FieldType.int) ∈ WL := wl_of (in_t7 (List.mem_of_getElem? (i := 105) rfl)) rfl
set_option maxRecDepth 20000 in
theorem qm_X11_315 : Cond.methodLink RX11 315 yX11_openMany ∈ WL := wl_of (in_t7 (List.mem_of_getElem? (i := 106) rfl)) rfl
set_option maxRecDepth 20000 in
theorem qi_X11_openMany : Cond.instanceMethod yX11_openMany ∈ WL := wl_of (in_t7 (List.mem_of_getElem? (i := 108) rfl)) rfl
set_option maxRecDepth 20000 in
theorem qc_X11_openMany : Cond.code yX11_openMany cX11_openMany 3 (some FieldType.int) ∈ WL := wl_of (in_t7 (List.mem_of_getElem? (i := 109) rfl)) rfl
set_option maxRecDepth 20000 in
theorem qm_L_145 : Cond.methodLink RL 145 yX11_best ∈ WL := wl_of (in_t7 (List.mem_of_getElem? (i := 110) rfl)) rfl
set_option maxRecDepth 20000 in
theorem qi_X11_best : Cond.instanceMethod yX11_best ∈ WL := wl_of (in_t7 (List.mem_of_getElem? (i := 111) rfl)) rfl
set_option maxRecDepth 20000 in
theorem qs_X11_best : Cond.selects RX11 yX11_best yX11_best ∈ WL := wl_of (in_t7 (List.mem_of_getElem? (i := 112) rfl)) rfl
set_option maxRecDepth 20000 in
theorem qc_X11_best : Cond.code yX11_best cX11_best 8 (some FieldType.int) ∈ WL := wl_of (in_t7 (List.mem_of_getElem? (i := 113) rfl)) rfl
set_option maxRecDepth 20000 in
theorem qm_L_149 : Cond.methodLink RL 149 yX11_order ∈ WL := wl_of (in_t7 (List.mem_of_getElem? (i := 114) rfl)) rfl
set_option maxRecDepth 20000 in
theorem qi_X11_order : Cond.instanceMethod yX11_order ∈ WL := wl_of (in_t7 (List.mem_of_getElem? (i := 115) rfl)) rfl
set_option maxRecDepth 20000 in
theorem qs_X11_order : Cond.selects RX11 yX11_order yX11_order ∈ WL := wl_of (in_t7 (List.mem_of_getElem? (i := 116) rfl)) rfl
set_option maxRecDepth 20000 in
theorem qc_X11_order : Cond.code yX11_order cX11_order 5 (some FieldType.int) ∈ WL := wl_of (in_t7 (List.mem_of_getElem? (i := 117) rfl)) rfl
set_option maxRecDepth 20000 in
theorem qm_X11_318 : Cond.methodLink RX11 318 yX11_yearOf ∈ WL := wl_of (in_t7 (List.mem_of_getElem? (i := 118) rfl)) rfl
set_option maxRecDepth 20000 in
theorem qi_X11_yearOf : Cond.instanceMethod yX11_yearOf ∈ WL := wl_of (in_t7 (List.mem_of_getElem? (i := 120) rfl)) rfl
set_option maxRecDepth 20000 in
theorem qc_X11_yearOf : Cond.code yX11_yearOf cX11_yearOf 5 (some FieldType.long) ∈ WL := wl_of (in_t7 (List.mem_of_getElem? (i := 121) rfl)) rfl
set_option maxRecDepth 20000 in
theorem qm_L_153 : Cond.methodLink RL 153 yX11_focus ∈ WL := wl_of (in_t7 (List.mem_of_getElem? (i := 122) rfl)) rfl
set_option maxRecDepth 20000 in
theorem qi_X11_focus : Cond.instanceMethod yX11_focus ∈ WL := wl_of (in_t7 (List.mem_of_getElem? (i := 123) rfl)) rfl
set_option maxRecDepth 20000 in
theorem qs_X11_focus : Cond.selects RX11 yX11_focus yX11_focus ∈ WL := wl_of (in_t7 (List.mem_of_getElem? (i := 124) rfl)) rfl
set_option maxRecDepth 20000 in
theorem qc_X11_focus : Cond.code yX11_focus cX11_focus 7 (some FieldType.long) ∈ WL := wl_of (in_t7 (List.mem_of_getElem? (i := 125) rfl)) rfl
set_option maxRecDepth 20000 in
theorem qm_L_157 : Cond.methodLink RL 157 yX11_carry ∈ WL := wl_of (in_t7 (List.mem_of_getElem? (i := 126) rfl)) rfl
set_option maxRecDepth 20000 in
theorem qi_X11_carry : Cond.instanceMethod yX11_carry ∈ WL := wl_of (in_t7 (List.mem_of_getElem? (i := 127) rfl)) rfl
set_option maxRecDepth 20000 in
theorem qs_X11_carry : Cond.selects RX11 yX11_carry yX11_carry ∈ WL := wl_of (in_t7 (List.mem_of_getElem? (i := 128) rfl)) rfl
set_option maxRecDepth 20000 in
theorem qc_X11_carry : Cond.code yX11_carry cX11_carry 2 (some FieldType.int) ∈ WL := wl_of (in_t7 (List.mem_of_getElem? (i := 129) rfl)) rfl
set_option maxRecDepth 20000 in
theorem qk_X11_321 : Cond.constantLong RX11 321 (270) ∈ WL := wl_of (in_t7 (List.mem_of_getElem? (i := 130) rfl)) rfl
set_option maxRecDepth 20000 in
theorem qm_L_161 : Cond.methodLink RL 161 yX11_window ∈ WL := wl_of (in_t7 (List.mem_of_getElem? (i := 131) rfl)) rfl
set_option maxRecDepth 20000 in
theorem qi_X11_window : Cond.instanceMethod yX11_window ∈ WL := wl_of (in_t7 (List.mem_of_getElem? (i := 132) rfl)) rfl
set_option maxRecDepth 20000 in
theorem qs_X11_window : Cond.selects RX11 yX11_window yX11_window ∈ WL := wl_of (in_t7 (List.mem_of_getElem? (i := 133) rfl)) rfl
set_option maxRecDepth 20000 in
theorem qc_X11_window : Cond.code yX11_window cX11_window 6 (some FieldType.int) ∈ WL := wl_of (in_t7 (List.mem_of_getElem? (i := 134) rfl)) rfl
set_option maxRecDepth 20000 in
theorem qm_L_165 : Cond.methodLink RL 165 yX11_shareAt ∈ WL := wl_of (in_t7 (List.mem_of_getElem? (i := 135) rfl)) rfl
set_option maxRecDepth 20000 in
theorem qi_X11_shareAt : Cond.instanceMethod yX11_shareAt ∈ WL := wl_of (in_t7 (List.mem_of_getElem? (i := 136) rfl)) rfl
set_option maxRecDepth 20000 in
theorem qs_X11_shareAt : Cond.selects RX11 yX11_shareAt yX11_shareAt ∈ WL := wl_of (in_t7 (List.mem_of_getElem? (i := 137) rfl)) rfl
set_option maxRecDepth 20000 in
theorem qc_X11_shareAt : Cond.code yX11_shareAt cX11_shareAt 4 (some FieldType.int) ∈ WL := wl_of (in_t7 (List.mem_of_getElem? (i := 138) rfl)) rfl
set_option maxRecDepth 20000 in
theorem qm_L_169 : Cond.methodLink RL 169 yX11_speed ∈ WL := wl_of (in_t7 (List.mem_of_getElem? (i := 139) rfl)) rfl
set_option maxRecDepth 20000 in
theorem qi_X11_speed : Cond.instanceMethod yX11_speed ∈ WL := wl_of (in_t7 (List.mem_of_getElem? (i := 140) rfl)) rfl
set_option maxRecDepth 20000 in
theorem qs_X11_speed : Cond.selects RX11 yX11_speed yX11_speed ∈ WL := wl_of (in_t7 (List.mem_of_getElem? (i := 141) rfl)) rfl
set_option maxRecDepth 20000 in
theorem qc_X11_speed : Cond.code yX11_speed cX11_speed 4 (some FieldType.long) ∈ WL := wl_of (in_t7 (List.mem_of_getElem? (i := 142) rfl)) rfl
set_option maxRecDepth 20000 in
theorem qm_L_173 : Cond.methodLink RL 173 yX11_fastest ∈ WL := wl_of (in_t7 (List.mem_of_getElem? (i := 143) rfl)) rfl
set_option maxRecDepth 20000 in
theorem qi_X11_fastest : Cond.instanceMethod yX11_fastest ∈ WL := wl_of (in_t7 (List.mem_of_getElem? (i := 144) rfl)) rfl
set_option maxRecDepth 20000 in
theorem qs_X11_fastest : Cond.selects RX11 yX11_fastest yX11_fastest ∈ WL := wl_of (in_t7 (List.mem_of_getElem? (i := 145) rfl)) rfl
set_option maxRecDepth 20000 in
theorem qc_X11_fastest : Cond.code yX11_fastest cX11_fastest 4 (some FieldType.int) ∈ WL := wl_of (in_t7 (List.mem_of_getElem? (i := 146) rfl)) rfl
set_option maxRecDepth 20000 in
theorem qm_X11_323 : Cond.methodLink RX11 323 yX11_sumOf ∈ WL := wl_of (in_t7 (List.mem_of_getElem? (i := 147) rfl)) rfl
set_option maxRecDepth 20000 in
theorem qi_X11_sumOf : Cond.instanceMethod yX11_sumOf ∈ WL := wl_of (in_t7 (List.mem_of_getElem? (i := 149) rfl)) rfl
set_option maxRecDepth 20000 in
theorem qc_X11_sumOf : Cond.code yX11_sumOf cX11_sumOf 7 (some FieldType.long) ∈ WL := wl_of (in_t7 (List.mem_of_getElem? (i := 150) rfl)) rfl
set_option maxRecDepth 20000 in
theorem qm_L_177 : Cond.methodLink RL 177 yX11_log ∈ WL := wl_of (in_t7 (List.mem_of_getElem? (i := 151) rfl)) rfl
set_option maxRecDepth 20000 in
theorem qi_X11_log : Cond.instanceMethod yX11_log ∈ WL := wl_of (in_t7 (List.mem_of_getElem? (i := 152) rfl)) rfl
set_option maxRecDepth 20000 in
theorem qs_X11_log : Cond.selects RX11 yX11_log yX11_log ∈ WL := wl_of (in_t7 (List.mem_of_getElem? (i := 153) rfl)) rfl
set_option maxRecDepth 20000 in
theorem qc_X11_log : Cond.code yX11_log cX11_log 4 (some FieldType.int) ∈ WL := wl_of (in_t7 (List.mem_of_getElem? (i := 154) rfl)) rfl
set_option maxRecDepth 20000 in
theorem qm_L_181 : Cond.methodLink RL 181 yX11_risk ∈ WL := wl_of (in_t7 (List.mem_of_getElem? (i := 155) rfl)) rfl
set_option maxRecDepth 20000 in
theorem qi_X11_risk : Cond.instanceMethod yX11_risk ∈ WL := wl_of (in_t7 (List.mem_of_getElem? (i := 156) rfl)) rfl
set_option maxRecDepth 20000 in
theorem qs_X11_risk : Cond.selects RX11 yX11_risk yX11_risk ∈ WL := wl_of (in_t7 (List.mem_of_getElem? (i := 157) rfl)) rfl
set_option maxRecDepth 20000 in
theorem qc_X11_risk : Cond.code yX11_risk cX11_risk 4 (some FieldType.int) ∈ WL := wl_of (in_t7 (List.mem_of_getElem? (i := 158) rfl)) rfl
set_option maxRecDepth 20000 in
theorem qm_L_185 : Cond.methodLink RL 185 yX11_lacks ∈ WL := wl_of (in_t7 (List.mem_of_getElem? (i := 159) rfl)) rfl
set_option maxRecDepth 20000 in
theorem qi_X11_lacks : Cond.instanceMethod yX11_lacks ∈ WL := wl_of (in_t7 (List.mem_of_getElem? (i := 160) rfl)) rfl
set_option maxRecDepth 20000 in
theorem qs_X11_lacks : Cond.selects RX11 yX11_lacks yX11_lacks ∈ WL := wl_of (in_t7 (List.mem_of_getElem? (i := 161) rfl)) rfl
set_option maxRecDepth 20000 in
theorem qc_X11_lacks : Cond.code yX11_lacks cX11_lacks 7 (some FieldType.int) ∈ WL := wl_of (in_t7 (List.mem_of_getElem? (i := 162) rfl)) rfl
set_option maxRecDepth 20000 in
theorem qm_X11_327 : Cond.methodLink RX11 327 yJ9_max_f86c9 ∈ WL := wl_of (in_t7 (List.mem_of_getElem? (i := 163) rfl)) rfl
set_option maxRecDepth 20000 in
theorem qt_J9_max_f86c9 : Cond.static yJ9_max_f86c9 ∈ WL := wl_of (in_t7 (List.mem_of_getElem? (i := 164) rfl)) rfl
set_option maxRecDepth 20000 in
theorem qc_J9_max_f86c9 : Cond.code yJ9_max_f86c9 cJ9_max_f86c9 4 (some FieldType.long) ∈ WL := wl_of (in_t7 (List.mem_of_getElem? (i := 165) rfl)) rfl
set_option maxRecDepth 20000 in
theorem qm_L_189 : Cond.methodLink RL 189 yX11_pace ∈ WL := wl_of (in_t7 (List.mem_of_getElem? (i := 166) rfl)) rfl
set_option maxRecDepth 20000 in
theorem qi_X11_pace : Cond.instanceMethod yX11_pace ∈ WL := wl_of (in_t7 (List.mem_of_getElem? (i := 167) rfl)) rfl
set_option maxRecDepth 20000 in
theorem qs_X11_pace : Cond.selects RX11 yX11_pace yX11_pace ∈ WL := wl_of (in_t7 (List.mem_of_getElem? (i := 168) rfl)) rfl
set_option maxRecDepth 20000 in
theorem qc_X11_pace : Cond.code yX11_pace cX11_pace 2 (some FieldType.int) ∈ WL := wl_of (in_t7 (List.mem_of_getElem? (i := 169) rfl)) rfl
set_option maxRecDepth 20000 in
theorem qm_X11_330 : Cond.methodLink RX11 330 yJxf58ca_floatToIntBits_5c35a ∈ WL := wl_of (in_t7 (List.mem_of_getElem? (i := 170) rfl)) rfl
set_option maxRecDepth 20000 in
theorem qt_Jxf58ca_floatToIntBits_5c35a : Cond.static yJxf58ca_floatToIntBits_5c35a ∈ WL := wl_of (in_t7 (List.mem_of_getElem? (i := 171) rfl)) rfl
set_option maxRecDepth 20000 in
theorem qc_Jxf58ca_floatToIntBits_5c35a : Cond.code yJxf58ca_floatToIntBits_5c35a cJxf58ca_floatToIntBits_5c35a 1 (some FieldType.int) ∈ WL := wl_of (in_t7 (List.mem_of_getElem? (i := 172) rfl)) rfl
set_option maxRecDepth 20000 in
theorem qm_Jxf58ca_59 : Cond.methodLink RJxf58ca 59 yJxf58ca_isNaN_12338 ∈ WL := wl_of (in_t7 (List.mem_of_getElem? (i := 173) rfl)) rfl
set_option maxRecDepth 20000 in
theorem qt_Jxf58ca_isNaN_12338 : Cond.static yJxf58ca_isNaN_12338 ∈ WL := wl_of (in_t7 (List.mem_of_getElem? (i := 174) rfl)) rfl
set_option maxRecDepth 20000 in
theorem qc_Jxf58ca_isNaN_12338 : Cond.code yJxf58ca_isNaN_12338 cJxf58ca_isNaN_12338 1 (some FieldType.boolean) ∈ WL := wl_of (in_t7 (List.mem_of_getElem? (i := 175) rfl)) rfl
set_option maxRecDepth 20000 in
theorem qm_Jxf58ca_74 : Cond.methodLink RJxf58ca 74 ⟨"java/lang/Float", "floatToRawIntBits", "(F)I"⟩ ∈ WL := wl_of (in_t7 (List.mem_of_getElem? (i := 176) rfl)) rfl
set_option maxRecDepth 20000 in
theorem qt_java_lang_Float_floatToRawIntBits : Cond.static ⟨"java/lang/Float", "floatToRawIntBits", "(F)I"⟩ ∈ WL := wl_of (in_t7 (List.mem_of_getElem? (i := 177) rfl)) rfl
set_option maxRecDepth 20000 in
theorem qv_java_lang_Float_floatToRawIntBits : Cond.native ⟨"java/lang/Float", "floatToRawIntBits", "(F)I"⟩ ∈ WL := wl_of (in_t7 (List.mem_of_getElem? (i := 178) rfl)) rfl
set_option maxRecDepth 20000 in
theorem qk_Jxf58ca_77 : Cond.constant RJxf58ca 77 (2143289344) ∈ WL := wl_of (in_t7 (List.mem_of_getElem? (i := 179) rfl)) rfl
set_option maxRecDepth 20000 in
theorem qm_L_193 : Cond.methodLink RL 193 yX11_peak ∈ WL := wl_of (in_t7 (List.mem_of_getElem? (i := 180) rfl)) rfl
set_option maxRecDepth 20000 in
theorem qi_X11_peak : Cond.instanceMethod yX11_peak ∈ WL := wl_of (in_t7 (List.mem_of_getElem? (i := 181) rfl)) rfl
set_option maxRecDepth 20000 in
theorem qs_X11_peak : Cond.selects RX11 yX11_peak yX11_peak ∈ WL := wl_of (in_t7 (List.mem_of_getElem? (i := 182) rfl)) rfl
set_option maxRecDepth 20000 in
theorem qc_X11_peak : Cond.code yX11_peak cX11_peak 11 (some FieldType.int) ∈ WL := wl_of (in_t7 (List.mem_of_getElem? (i := 183) rfl)) rfl
set_option maxRecDepth 20000 in
theorem qk_X11_336 : Cond.constantLong RX11 336 (12) ∈ WL := wl_of (in_t7 (List.mem_of_getElem? (i := 184) rfl)) rfl
set_option maxRecDepth 20000 in
theorem qm_L_197 : Cond.methodLink RL 197 yX11_even ∈ WL := wl_of (in_t7 (List.mem_of_getElem? (i := 185) rfl)) rfl
set_option maxRecDepth 20000 in
theorem qi_X11_even : Cond.instanceMethod yX11_even ∈ WL := wl_of (in_t7 (List.mem_of_getElem? (i := 186) rfl)) rfl
set_option maxRecDepth 20000 in
theorem qs_X11_even : Cond.selects RX11 yX11_even yX11_even ∈ WL := wl_of (in_t7 (List.mem_of_getElem? (i := 187) rfl)) rfl
set_option maxRecDepth 20000 in
theorem qc_X11_even : Cond.code yX11_even cX11_even 7 (some FieldType.int) ∈ WL := wl_of (in_t7 (List.mem_of_getElem? (i := 188) rfl)) rfl
set_option maxRecDepth 20000 in
theorem qm_L_201 : Cond.methodLink RL 201 yX11_future ∈ WL := wl_of (in_t7 (List.mem_of_getElem? (i := 189) rfl)) rfl
set_option maxRecDepth 20000 in
theorem qi_X11_future : Cond.instanceMethod yX11_future ∈ WL := wl_of (in_t7 (List.mem_of_getElem? (i := 190) rfl)) rfl
set_option maxRecDepth 20000 in
theorem qs_X11_future : Cond.selects RX11 yX11_future yX11_future ∈ WL := wl_of (in_t7 (List.mem_of_getElem? (i := 191) rfl)) rfl
set_option maxRecDepth 20000 in
theorem qc_X11_future : Cond.code yX11_future cX11_future 6 (some FieldType.int) ∈ WL := wl_of (in_t7 (List.mem_of_getElem? (i := 192) rfl)) rfl
set_option maxRecDepth 20000 in
theorem qm_X11_341 : Cond.methodLink RX11 341 yX11_wouldCount ∈ WL := wl_of (in_t7 (List.mem_of_getElem? (i := 193) rfl)) rfl
set_option maxRecDepth 20000 in
theorem qi_X11_wouldCount : Cond.instanceMethod yX11_wouldCount ∈ WL := wl_of (in_t7 (List.mem_of_getElem? (i := 195) rfl)) rfl
set_option maxRecDepth 20000 in
theorem qc_X11_wouldCount : Cond.code yX11_wouldCount cX11_wouldCount 3 (some FieldType.boolean) ∈ WL := wl_of (in_t7 (List.mem_of_getElem? (i := 196) rfl)) rfl
set_option maxRecDepth 20000 in
theorem qm_X11_338 : Cond.methodLink RX11 338 yX11_wouldBe ∈ WL := wl_of (in_t7 (List.mem_of_getElem? (i := 197) rfl)) rfl
set_option maxRecDepth 20000 in
theorem qi_X11_wouldBe : Cond.instanceMethod yX11_wouldBe ∈ WL := wl_of (in_t7 (List.mem_of_getElem? (i := 199) rfl)) rfl
set_option maxRecDepth 20000 in
theorem qc_X11_wouldBe : Cond.code yX11_wouldBe cX11_wouldBe 4 (some FieldType.int) ∈ WL := wl_of (in_t7 (List.mem_of_getElem? (i := 200) rfl)) rfl
set_option maxRecDepth 20000 in
theorem qm_X11_344 : Cond.methodLink RX11 344 yX11_wouldAll ∈ WL := wl_of (in_t7 (List.mem_of_getElem? (i := 201) rfl)) rfl
set_option maxRecDepth 20000 in
theorem qi_X11_wouldAll : Cond.instanceMethod yX11_wouldAll ∈ WL := wl_of (in_t7 (List.mem_of_getElem? (i := 203) rfl)) rfl
set_option maxRecDepth 20000 in
theorem qc_X11_wouldAll : Cond.code yX11_wouldAll cX11_wouldAll 3 (some FieldType.long) ∈ WL := wl_of (in_t7 (List.mem_of_getElem? (i := 204) rfl)) rfl
set_option maxRecDepth 20000 in
theorem qm_L_205 : Cond.methodLink RL 205 yX11_likely ∈ WL := wl_of (in_t7 (List.mem_of_getElem? (i := 205) rfl)) rfl
set_option maxRecDepth 20000 in
theorem qi_X11_likely : Cond.instanceMethod yX11_likely ∈ WL := wl_of (in_t7 (List.mem_of_getElem? (i := 206) rfl)) rfl
set_option maxRecDepth 20000 in
theorem qs_X11_likely : Cond.selects RX11 yX11_likely yX11_likely ∈ WL := wl_of (in_t7 (List.mem_of_getElem? (i := 207) rfl)) rfl
set_option maxRecDepth 20000 in
theorem qc_X11_likely : Cond.code yX11_likely cX11_likely 7 (some FieldType.long) ∈ WL := wl_of (in_t7 (List.mem_of_getElem? (i := 208) rfl)) rfl
set_option maxRecDepth 20000 in
theorem qm_L_209 : Cond.methodLink RL 209 yX11_root ∈ WL := wl_of (in_t7 (List.mem_of_getElem? (i := 209) rfl)) rfl
set_option maxRecDepth 20000 in
theorem qi_X11_root : Cond.instanceMethod yX11_root ∈ WL := wl_of (in_t7 (List.mem_of_getElem? (i := 210) rfl)) rfl
set_option maxRecDepth 20000 in
theorem qs_X11_root : Cond.selects RX11 yX11_root yX11_root ∈ WL := wl_of (in_t7 (List.mem_of_getElem? (i := 211) rfl)) rfl
set_option maxRecDepth 20000 in
theorem qc_X11_root : Cond.code yX11_root cX11_root 5 (some FieldType.int) ∈ WL := wl_of (in_t7 (List.mem_of_getElem? (i := 212) rfl)) rfl
set_option maxRecDepth 20000 in
theorem qm_L_213 : Cond.methodLink RL 213 yX11_median ∈ WL := wl_of (in_t7 (List.mem_of_getElem? (i := 213) rfl)) rfl
set_option maxRecDepth 20000 in
theorem qi_X11_median : Cond.instanceMethod yX11_median ∈ WL := wl_of (in_t7 (List.mem_of_getElem? (i := 214) rfl)) rfl
set_option maxRecDepth 20000 in
theorem qs_X11_median : Cond.selects RX11 yX11_median yX11_median ∈ WL := wl_of (in_t7 (List.mem_of_getElem? (i := 215) rfl)) rfl
set_option maxRecDepth 20000 in
theorem qc_X11_median : Cond.code yX11_median cX11_median 7 (some FieldType.int) ∈ WL := wl_of (in_t7 (List.mem_of_getElem? (i := 216) rfl)) rfl
set_option maxRecDepth 20000 in
theorem qm_L_217 : Cond.methodLink RL 217 yX11_rush ∈ WL := wl_of (in_t7 (List.mem_of_getElem? (i := 217) rfl)) rfl
set_option maxRecDepth 20000 in
theorem qi_X11_rush : Cond.instanceMethod yX11_rush ∈ WL := wl_of (in_t7 (List.mem_of_getElem? (i := 218) rfl)) rfl
set_option maxRecDepth 20000 in
theorem qs_X11_rush : Cond.selects RX11 yX11_rush yX11_rush ∈ WL := wl_of (in_t7 (List.mem_of_getElem? (i := 219) rfl)) rfl
set_option maxRecDepth 20000 in
theorem qc_X11_rush : Cond.code yX11_rush cX11_rush 7 (some FieldType.int) ∈ WL := wl_of (in_t7 (List.mem_of_getElem? (i := 220) rfl)) rfl
set_option maxRecDepth 20000 in
theorem qm_X11_347 : Cond.methodLink RX11 347 yJ9_max_7cf53 ∈ WL := wl_of (in_t7 (List.mem_of_getElem? (i := 221) rfl)) rfl
set_option maxRecDepth 20000 in
theorem qm_L_221 : Cond.methodLink RL 221 yX11_stood ∈ WL := wl_of (in_t7 (List.mem_of_getElem? (i := 222) rfl)) rfl
set_option maxRecDepth 20000 in
theorem qi_X11_stood : Cond.instanceMethod yX11_stood ∈ WL := wl_of (in_t7 (List.mem_of_getElem? (i := 223) rfl)) rfl
set_option maxRecDepth 20000 in
theorem qs_X11_stood : Cond.selects RX11 yX11_stood yX11_stood ∈ WL := wl_of (in_t7 (List.mem_of_getElem? (i := 224) rfl)) rfl
set_option maxRecDepth 20000 in
theorem qc_X11_stood : Cond.code yX11_stood cX11_stood 7 (some FieldType.int) ∈ WL := wl_of (in_t7 (List.mem_of_getElem? (i := 225) rfl)) rfl
set_option maxRecDepth 20000 in
theorem qm_L_225 : Cond.methodLink RL 225 yX11_owing ∈ WL := wl_of (in_t7 (List.mem_of_getElem? (i := 226) rfl)) rfl
set_option maxRecDepth 20000 in
theorem qi_X11_owing : Cond.instanceMethod yX11_owing ∈ WL := wl_of (in_t7 (List.mem_of_getElem? (i := 227) rfl)) rfl
set_option maxRecDepth 20000 in
theorem qs_X11_owing : Cond.selects RX11 yX11_owing yX11_owing ∈ WL := wl_of (in_t7 (List.mem_of_getElem? (i := 228) rfl)) rfl
set_option maxRecDepth 20000 in
theorem qc_X11_owing : Cond.code yX11_owing cX11_owing 5 (some FieldType.int) ∈ WL := wl_of (in_t7 (List.mem_of_getElem? (i := 229) rfl)) rfl
set_option maxRecDepth 20000 in
theorem qk_X11_349 : Cond.constantLong RX11 349 (99) ∈ WL := wl_of (in_t7 (List.mem_of_getElem? (i := 230) rfl)) rfl
set_option maxRecDepth 20000 in
theorem qm_L_229 : Cond.methodLink RL 229 yX11_holds ∈ WL := wl_of (in_t7 (List.mem_of_getElem? (i := 231) rfl)) rfl
set_option maxRecDepth 20000 in
theorem qi_X11_holds : Cond.instanceMethod yX11_holds ∈ WL := wl_of (in_t7 (List.mem_of_getElem? (i := 232) rfl)) rfl
set_option maxRecDepth 20000 in
theorem qs_X11_holds : Cond.selects RX11 yX11_holds yX11_holds ∈ WL := wl_of (in_t7 (List.mem_of_getElem? (i := 233) rfl)) rfl
set_option maxRecDepth 20000 in
theorem qc_X11_holds : Cond.code yX11_holds cX11_holds 9 (some FieldType.int) ∈ WL := wl_of (in_t7 (List.mem_of_getElem? (i := 234) rfl)) rfl
set_option maxRecDepth 20000 in
theorem qm_L_233 : Cond.methodLink RL 233 yX11_total ∈ WL := wl_of (in_t7 (List.mem_of_getElem? (i := 235) rfl)) rfl
set_option maxRecDepth 20000 in
theorem qi_X11_total : Cond.instanceMethod yX11_total ∈ WL := wl_of (in_t7 (List.mem_of_getElem? (i := 236) rfl)) rfl
set_option maxRecDepth 20000 in
theorem qs_X11_total : Cond.selects RX11 yX11_total yX11_total ∈ WL := wl_of (in_t7 (List.mem_of_getElem? (i := 237) rfl)) rfl
set_option maxRecDepth 20000 in
theorem qc_X11_total : Cond.code yX11_total cX11_total 2 (some FieldType.int) ∈ WL := wl_of (in_t7 (List.mem_of_getElem? (i := 238) rfl)) rfl
set_option maxRecDepth 20000 in
theorem qm_L_237 : Cond.methodLink RL 237 yX11_row ∈ WL := wl_of (in_t7 (List.mem_of_getElem? (i := 239) rfl)) rfl
set_option maxRecDepth 20000 in
theorem qi_X11_row : Cond.instanceMethod yX11_row ∈ WL := wl_of (in_t8 (List.mem_of_getElem? (i := 0) rfl)) rfl
set_option maxRecDepth 20000 in
theorem qs_X11_row : Cond.selects RX11 yX11_row yX11_row ∈ WL := wl_of (in_t8 (List.mem_of_getElem? (i := 1) rfl)) rfl
set_option maxRecDepth 20000 in
theorem qc_X11_row : Cond.code yX11_row cX11_row 4 (some FieldType.int) ∈ WL := wl_of (in_t8 (List.mem_of_getElem? (i := 2) rfl)) rfl
set_option maxRecDepth 20000 in
theorem qk_X11_351 : Cond.constantLong RX11 351 (40) ∈ WL := wl_of (in_t8 (List.mem_of_getElem? (i := 3) rfl)) rfl
set_option maxRecDepth 20000 in
theorem qm_L_244 : Cond.methodLink RL 244 yX11_note ∈ WL := wl_of (in_t8 (List.mem_of_getElem? (i := 4) rfl)) rfl
set_option maxRecDepth 20000 in
theorem qi_X11_note : Cond.instanceMethod yX11_note ∈ WL := wl_of (in_t8 (List.mem_of_getElem? (i := 5) rfl)) rfl
set_option maxRecDepth 20000 in
theorem qs_X11_note : Cond.selects RX11 yX11_note yX11_note ∈ WL := wl_of (in_t8 (List.mem_of_getElem? (i := 6) rfl)) rfl
set_option maxRecDepth 20000 in
theorem qc_X11_note : Cond.code yX11_note cX11_note 5 (some FieldType.int) ∈ WL := wl_of (in_t8 (List.mem_of_getElem? (i := 7) rfl)) rfl
set_option maxRecDepth 20000 in
theorem qk_X11_358 : Cond.constantLong RX11 358 (-2147483648) ∈ WL := wl_of (in_t8 (List.mem_of_getElem? (i := 8) rfl)) rfl
set_option maxRecDepth 20000 in
theorem qk_X11_360 : Cond.constantLong RX11 360 (2147483647) ∈ WL := wl_of (in_t8 (List.mem_of_getElem? (i := 9) rfl)) rfl
set_option maxRecDepth 20000 in
theorem qk_X11_362 : Cond.constantLong RX11 362 (-32768) ∈ WL := wl_of (in_t8 (List.mem_of_getElem? (i := 10) rfl)) rfl
set_option maxRecDepth 20000 in
theorem qk_X11_364 : Cond.constantLong RX11 364 (32767) ∈ WL := wl_of (in_t8 (List.mem_of_getElem? (i := 11) rfl)) rfl
set_option maxRecDepth 20000 in
theorem qm_L_248 : Cond.methodLink RL 248 yX11_noted ∈ WL := wl_of (in_t8 (List.mem_of_getElem? (i := 12) rfl)) rfl
set_option maxRecDepth 20000 in
theorem qi_X11_noted : Cond.instanceMethod yX11_noted ∈ WL := wl_of (in_t8 (List.mem_of_getElem? (i := 13) rfl)) rfl
set_option maxRecDepth 20000 in
theorem qs_X11_noted : Cond.selects RX11 yX11_noted yX11_noted ∈ WL := wl_of (in_t8 (List.mem_of_getElem? (i := 14) rfl)) rfl
set_option maxRecDepth 20000 in
theorem qc_X11_noted : Cond.code yX11_noted cX11_noted 2 (some FieldType.long) ∈ WL := wl_of (in_t8 (List.mem_of_getElem? (i := 15) rfl)) rfl
set_option maxRecDepth 20000 in
theorem qk_X11_366 : Cond.constantLong RX11 366 (-9000000000) ∈ WL := wl_of (in_t8 (List.mem_of_getElem? (i := 16) rfl)) rfl
set_option maxRecDepth 20000 in
theorem qm_L_252 : Cond.methodLink RL 252 yX11_letter ∈ WL := wl_of (in_t8 (List.mem_of_getElem? (i := 17) rfl)) rfl
set_option maxRecDepth 20000 in
theorem qi_X11_letter : Cond.instanceMethod yX11_letter ∈ WL := wl_of (in_t8 (List.mem_of_getElem? (i := 18) rfl)) rfl
set_option maxRecDepth 20000 in
theorem qs_X11_letter : Cond.selects RX11 yX11_letter yX11_letter ∈ WL := wl_of (in_t8 (List.mem_of_getElem? (i := 19) rfl)) rfl
set_option maxRecDepth 20000 in
theorem qc_X11_letter : Cond.code yX11_letter cX11_letter 2 (some FieldType.int) ∈ WL := wl_of (in_t8 (List.mem_of_getElem? (i := 20) rfl)) rfl
set_option maxRecDepth 20000 in
theorem qm_X11_396 : Cond.methodLink RX11 396 yX11_writesAll ∈ WL := wl_of (in_t8 (List.mem_of_getElem? (i := 21) rfl)) rfl
set_option maxRecDepth 20000 in
theorem qi_X11_writesAll : Cond.instanceMethod yX11_writesAll ∈ WL := wl_of (in_t8 (List.mem_of_getElem? (i := 23) rfl)) rfl
set_option maxRecDepth 20000 in
theorem qc_X11_writesAll : Cond.code yX11_writesAll cX11_writesAll 4 (none : Option FieldType) ∈ WL := wl_of (in_t8 (List.mem_of_getElem? (i := 24) rfl)) rfl
set_option maxRecDepth 20000 in
theorem qm_X11_383 : Cond.methodLink RX11 383 yX11_writesWord ∈ WL := wl_of (in_t8 (List.mem_of_getElem? (i := 25) rfl)) rfl
set_option maxRecDepth 20000 in
theorem qi_X11_writesWord : Cond.instanceMethod yX11_writesWord ∈ WL := wl_of (in_t8 (List.mem_of_getElem? (i := 27) rfl)) rfl
set_option maxRecDepth 20000 in
theorem qc_X11_writesWord : Cond.code yX11_writesWord cX11_writesWord 3 (none : Option FieldType) ∈ WL := wl_of (in_t8 (List.mem_of_getElem? (i := 28) rfl)) rfl
set_option maxRecDepth 20000 in
theorem qm_X11_377 : Cond.methodLink RX11 377 yX11_writes ∈ WL := wl_of (in_t8 (List.mem_of_getElem? (i := 29) rfl)) rfl
set_option maxRecDepth 20000 in
theorem qi_X11_writes : Cond.instanceMethod yX11_writes ∈ WL := wl_of (in_t8 (List.mem_of_getElem? (i := 31) rfl)) rfl
set_option maxRecDepth 20000 in
theorem qc_X11_writes : Cond.code yX11_writes cX11_writes 2 (none : Option FieldType) ∈ WL := wl_of (in_t8 (List.mem_of_getElem? (i := 32) rfl)) rfl
set_option maxRecDepth 20000 in
theorem qm_X11_387 : Cond.methodLink RX11 387 yX11_writesNumber ∈ WL := wl_of (in_t8 (List.mem_of_getElem? (i := 33) rfl)) rfl
set_option maxRecDepth 20000 in
theorem qi_X11_writesNumber : Cond.instanceMethod yX11_writesNumber ∈ WL := wl_of (in_t8 (List.mem_of_getElem? (i := 35) rfl)) rfl
set_option maxRecDepth 20000 in
theorem qc_X11_writesNumber : Cond.code yX11_writesNumber cX11_writesNumber 2 (none : Option FieldType) ∈ WL := wl_of (in_t8 (List.mem_of_getElem? (i := 36) rfl)) rfl
set_option maxRecDepth 20000 in
theorem qm_X11_380 : Cond.methodLink RX11 380 yX11_writesDigits ∈ WL := wl_of (in_t8 (List.mem_of_getElem? (i := 37) rfl)) rfl
set_option maxRecDepth 20000 in
theorem qi_X11_writesDigits : Cond.instanceMethod yX11_writesDigits ∈ WL := wl_of (in_t8 (List.mem_of_getElem? (i := 39) rfl)) rfl
set_option maxRecDepth 20000 in
theorem qc_X11_writesDigits : Cond.code yX11_writesDigits cX11_writesDigits 2 (none : Option FieldType) ∈ WL := wl_of (in_t8 (List.mem_of_getElem? (i := 40) rfl)) rfl
set_option maxRecDepth 20000 in
theorem qm_L_256 : Cond.methodLink RL 256 yX11_count ∈ WL := wl_of (in_t8 (List.mem_of_getElem? (i := 44) rfl)) rfl
set_option maxRecDepth 20000 in
theorem qi_X11_count : Cond.instanceMethod yX11_count ∈ WL := wl_of (in_t8 (List.mem_of_getElem? (i := 45) rfl)) rfl
set_option maxRecDepth 20000 in
theorem qs_X11_count : Cond.selects RX11 yX11_count yX11_count ∈ WL := wl_of (in_t8 (List.mem_of_getElem? (i := 46) rfl)) rfl
set_option maxRecDepth 20000 in
theorem qc_X11_count : Cond.code yX11_count cX11_count 2 (some FieldType.int) ∈ WL := wl_of (in_t8 (List.mem_of_getElem? (i := 47) rfl)) rfl
set_option maxRecDepth 20000 in
theorem qk_L_238 : Cond.constantLong RL 238 (4294967295) ∈ WL := wl_of (in_t8 (List.mem_of_getElem? (i := 48) rfl)) rfl
set_option maxRecDepth 20000 in
theorem qf_J0_9 : Cond.fieldLink RJ0 9 "java/lang/String" "value" "[B" ∈ WL := wl_of (in_t8 (List.mem_of_getElem? (i := 49) rfl)) rfl
set_option maxRecDepth 20000 in
theorem qf_J0_15 : Cond.fieldLink RJ0 15 "java/lang/String" "coder" "B" ∈ WL := wl_of (in_t8 (List.mem_of_getElem? (i := 50) rfl)) rfl
set_option maxRecDepth 20000 in
theorem qs_X8_takeFour : Cond.selects RX8 yX8_takeFour yX8_takeFour ∈ WL := List.mem_filter.mpr ⟨List.mem_append_left _ (List.mem_of_getElem? (i := 0) rfl), rfl⟩
set_option maxRecDepth 20000 in
theorem qs_X4_readTerms : Cond.selects RX4 yX4_readTerms yX4_readTerms ∈ WL := List.mem_filter.mpr ⟨List.mem_append_left _ (List.mem_of_getElem? (i := 1) rfl), rfl⟩
set_option maxRecDepth 20000 in
theorem qs_X4_skipBlanks : Cond.selects RX4 yX4_skipBlanks yX4_skipBlanks ∈ WL := List.mem_filter.mpr ⟨List.mem_append_left _ (List.mem_of_getElem? (i := 2) rfl), rfl⟩
set_option maxRecDepth 20000 in
theorem qs_X4_skipLetters : Cond.selects RX4 yX4_skipLetters yX4_skipLetters ∈ WL := List.mem_filter.mpr ⟨List.mem_append_left _ (List.mem_of_getElem? (i := 3) rfl), rfl⟩
set_option maxRecDepth 20000 in
theorem qs_X4_isWord : Cond.selects RX4 yX4_isWord yX4_isWord ∈ WL := List.mem_filter.mpr ⟨List.mem_append_left _ (List.mem_of_getElem? (i := 4) rfl), rfl⟩
set_option maxRecDepth 20000 in
theorem qs_X4_fail : Cond.selects RX4 yX4_fail yX4_fail ∈ WL := List.mem_filter.mpr ⟨List.mem_append_left _ (List.mem_of_getElem? (i := 5) rfl), rfl⟩
set_option maxRecDepth 20000 in
theorem qs_X4_readNumber : Cond.selects RX4 yX4_readNumber yX4_readNumber ∈ WL := List.mem_filter.mpr ⟨List.mem_append_left _ (List.mem_of_getElem? (i := 6) rfl), rfl⟩
set_option maxRecDepth 20000 in
theorem qs_X4_isAtEnd : Cond.selects RX4 yX4_isAtEnd yX4_isAtEnd ∈ WL := List.mem_filter.mpr ⟨List.mem_append_left _ (List.mem_of_getElem? (i := 7) rfl), rfl⟩
set_option maxRecDepth 20000 in
theorem qs_X4_readSeparator : Cond.selects RX4 yX4_readSeparator yX4_readSeparator ∈ WL := List.mem_filter.mpr ⟨List.mem_append_left _ (List.mem_of_getElem? (i := 8) rfl), rfl⟩
set_option maxRecDepth 20000 in
theorem qs_X4_readPiece : Cond.selects RX4 yX4_readPiece yX4_readPiece ∈ WL := List.mem_filter.mpr ⟨List.mem_append_left _ (List.mem_of_getElem? (i := 9) rfl), rfl⟩
set_option maxRecDepth 20000 in
theorem qs_X4_readOrigin : Cond.selects RX4 yX4_readOrigin yX4_readOrigin ∈ WL := List.mem_filter.mpr ⟨List.mem_append_left _ (List.mem_of_getElem? (i := 10) rfl), rfl⟩
set_option maxRecDepth 20000 in
theorem qs_X4_readImporter : Cond.selects RX4 yX4_readImporter yX4_readImporter ∈ WL := List.mem_filter.mpr ⟨List.mem_append_left _ (List.mem_of_getElem? (i := 11) rfl), rfl⟩
set_option maxRecDepth 20000 in
theorem qs_X4_readPast : Cond.selects RX4 yX4_readPast yX4_readPast ∈ WL := List.mem_filter.mpr ⟨List.mem_append_left _ (List.mem_of_getElem? (i := 12) rfl), rfl⟩
set_option maxRecDepth 20000 in
theorem qs_X7_startPeriod : Cond.selects RX7 yX7_startPeriod yX7_startPeriod ∈ WL := List.mem_filter.mpr ⟨List.mem_append_left _ (List.mem_of_getElem? (i := 13) rfl), rfl⟩
set_option maxRecDepth 20000 in
theorem qs_X7_partOut : Cond.selects RX7 yX7_partOut yX7_partOut ∈ WL := List.mem_filter.mpr ⟨List.mem_append_left _ (List.mem_of_getElem? (i := 14) rfl), rfl⟩
set_option maxRecDepth 20000 in
theorem qs_X7_isOfThisPeriod : Cond.selects RX7 yX7_isOfThisPeriod yX7_isOfThisPeriod ∈ WL := List.mem_filter.mpr ⟨List.mem_append_left _ (List.mem_of_getElem? (i := 15) rfl), rfl⟩
set_option maxRecDepth 20000 in
theorem qs_X7_turnYear : Cond.selects RX7 yX7_turnYear yX7_turnYear ∈ WL := List.mem_filter.mpr ⟨List.mem_append_left _ (List.mem_of_getElem? (i := 16) rfl), rfl⟩
set_option maxRecDepth 20000 in
theorem qs_X7_countsNextYear : Cond.selects RX7 yX7_countsNextYear yX7_countsNextYear ∈ WL := List.mem_filter.mpr ⟨List.mem_append_left _ (List.mem_of_getElem? (i := 17) rfl), rfl⟩
set_option maxRecDepth 20000 in
theorem qs_X6_putWord : Cond.selects RX6 yX6_putWord yX6_putWord ∈ WL := List.mem_filter.mpr ⟨List.mem_append_left _ (List.mem_of_getElem? (i := 18) rfl), rfl⟩
set_option maxRecDepth 20000 in
theorem qs_X6_putByte : Cond.selects RX6 yX6_putByte yX6_putByte ∈ WL := List.mem_filter.mpr ⟨List.mem_append_left _ (List.mem_of_getElem? (i := 19) rfl), rfl⟩
set_option maxRecDepth 20000 in
theorem qs_X6_putNumber : Cond.selects RX6 yX6_putNumber yX6_putNumber ∈ WL := List.mem_filter.mpr ⟨List.mem_append_left _ (List.mem_of_getElem? (i := 20) rfl), rfl⟩
set_option maxRecDepth 20000 in
theorem qs_X6_putPast : Cond.selects RX6 yX6_putPast yX6_putPast ∈ WL := List.mem_filter.mpr ⟨List.mem_append_left _ (List.mem_of_getElem? (i := 21) rfl), rfl⟩
set_option maxRecDepth 20000 in
theorem qs_X11_puts : Cond.selects RX11 yX11_puts yX11_puts ∈ WL := List.mem_filter.mpr ⟨List.mem_append_left _ (List.mem_of_getElem? (i := 22) rfl), rfl⟩
set_option maxRecDepth 20000 in
theorem qs_X11_takes : Cond.selects RX11 yX11_takes yX11_takes ∈ WL := List.mem_filter.mpr ⟨List.mem_append_left _ (List.mem_of_getElem? (i := 23) rfl), rfl⟩
set_option maxRecDepth 20000 in
theorem qs_X11_isWord : Cond.selects RX11 yX11_isWord yX11_isWord ∈ WL := List.mem_filter.mpr ⟨List.mem_append_left _ (List.mem_of_getElem? (i := 24) rfl), rfl⟩
set_option maxRecDepth 20000 in
theorem qs_X11_next : Cond.selects RX11 yX11_next yX11_next ∈ WL := List.mem_filter.mpr ⟨List.mem_append_left _ (List.mem_of_getElem? (i := 25) rfl), rfl⟩
set_option maxRecDepth 20000 in
theorem qs_X11_sign : Cond.selects RX11 yX11_sign yX11_sign ∈ WL := List.mem_filter.mpr ⟨List.mem_append_left _ (List.mem_of_getElem? (i := 26) rfl), rfl⟩
set_option maxRecDepth 20000 in
theorem qs_X11_fails : Cond.selects RX11 yX11_fails yX11_fails ∈ WL := List.mem_filter.mpr ⟨List.mem_append_left _ (List.mem_of_getElem? (i := 27) rfl), rfl⟩
set_option maxRecDepth 20000 in
theorem qs_X11_isRight : Cond.selects RX11 yX11_isRight yX11_isRight ∈ WL := List.mem_filter.mpr ⟨List.mem_append_left _ (List.mem_of_getElem? (i := 28) rfl), rfl⟩
set_option maxRecDepth 20000 in
theorem qs_X11_number : Cond.selects RX11 yX11_number yX11_number ∈ WL := List.mem_filter.mpr ⟨List.mem_append_left _ (List.mem_of_getElem? (i := 29) rfl), rfl⟩
set_option maxRecDepth 20000 in
theorem qs_X11_readsPiece : Cond.selects RX11 yX11_readsPiece yX11_readsPiece ∈ WL := List.mem_filter.mpr ⟨List.mem_append_left _ (List.mem_of_getElem? (i := 30) rfl), rfl⟩
set_option maxRecDepth 20000 in
theorem qs_X11_periodBegins : Cond.selects RX11 yX11_periodBegins yX11_periodBegins ∈ WL := List.mem_filter.mpr ⟨List.mem_append_left _ (List.mem_of_getElem? (i := 31) rfl), rfl⟩
set_option maxRecDepth 20000 in
theorem qs_X11_many : Cond.selects RX11 yX11_many yX11_many ∈ WL := List.mem_filter.mpr ⟨List.mem_append_left _ (List.mem_of_getElem? (i := 32) rfl), rfl⟩
set_option maxRecDepth 20000 in
theorem qs_X11_leaves : Cond.selects RX11 yX11_leaves yX11_leaves ∈ WL := List.mem_filter.mpr ⟨List.mem_append_left _ (List.mem_of_getElem? (i := 33) rfl), rfl⟩
set_option maxRecDepth 20000 in
theorem qs_X11_isTraditional : Cond.selects RX11 yX11_isTraditional yX11_isTraditional ∈ WL := List.mem_filter.mpr ⟨List.mem_append_left _ (List.mem_of_getElem? (i := 34) rfl), rfl⟩
set_option maxRecDepth 20000 in
theorem qs_X11_ofPair : Cond.selects RX11 yX11_ofPair yX11_ofPair ∈ WL := List.mem_filter.mpr ⟨List.mem_append_left _ (List.mem_of_getElem? (i := 35) rfl), rfl⟩
set_option maxRecDepth 20000 in
theorem qs_X11_shareBy : Cond.selects RX11 yX11_shareBy yX11_shareBy ∈ WL := List.mem_filter.mpr ⟨List.mem_append_left _ (List.mem_of_getElem? (i := 36) rfl), rfl⟩
set_option maxRecDepth 20000 in
theorem qs_X11_importedOf : Cond.selects RX11 yX11_importedOf yX11_importedOf ∈ WL := List.mem_filter.mpr ⟨List.mem_append_left _ (List.mem_of_getElem? (i := 37) rfl), rfl⟩
set_option maxRecDepth 20000 in
theorem qs_X11_allImported : Cond.selects RX11 yX11_allImported yX11_allImported ∈ WL := List.mem_filter.mpr ⟨List.mem_append_left _ (List.mem_of_getElem? (i := 38) rfl), rfl⟩
set_option maxRecDepth 20000 in
theorem qs_X11_arePair : Cond.selects RX11 yX11_arePair yX11_arePair ∈ WL := List.mem_filter.mpr ⟨List.mem_append_left _ (List.mem_of_getElem? (i := 39) rfl), rfl⟩
set_option maxRecDepth 20000 in
theorem qs_X11_isImporter : Cond.selects RX11 yX11_isImporter yX11_isImporter ∈ WL := List.mem_filter.mpr ⟨List.mem_append_left _ (List.mem_of_getElem? (i := 40) rfl), rfl⟩
set_option maxRecDepth 20000 in
theorem qs_X11_isOrigin : Cond.selects RX11 yX11_isOrigin yX11_isOrigin ∈ WL := List.mem_filter.mpr ⟨List.mem_append_left _ (List.mem_of_getElem? (i := 41) rfl), rfl⟩
set_option maxRecDepth 20000 in
theorem qs_X11_grantable : Cond.selects RX11 yX11_grantable yX11_grantable ∈ WL := List.mem_filter.mpr ⟨List.mem_append_left _ (List.mem_of_getElem? (i := 42) rfl), rfl⟩
set_option maxRecDepth 20000 in
theorem qs_X11_wasIdle : Cond.selects RX11 yX11_wasIdle yX11_wasIdle ∈ WL := List.mem_filter.mpr ⟨List.mem_append_left _ (List.mem_of_getElem? (i := 43) rfl), rfl⟩
set_option maxRecDepth 20000 in
theorem qs_X11_endedLast : Cond.selects RX11 yX11_endedLast yX11_endedLast ∈ WL := List.mem_filter.mpr ⟨List.mem_append_left _ (List.mem_of_getElem? (i := 44) rfl), rfl⟩
set_option maxRecDepth 20000 in
theorem qs_X11_isOf : Cond.selects RX11 yX11_isOf yX11_isOf ∈ WL := List.mem_filter.mpr ⟨List.mem_append_left _ (List.mem_of_getElem? (i := 45) rfl), rfl⟩
set_option maxRecDepth 20000 in
theorem qs_X11_ofLicence : Cond.selects RX11 yX11_ofLicence yX11_ofLicence ∈ WL := List.mem_filter.mpr ⟨List.mem_append_left _ (List.mem_of_getElem? (i := 46) rfl), rfl⟩
set_option maxRecDepth 20000 in
theorem qs_X11_isOpen : Cond.selects RX11 yX11_isOpen yX11_isOpen ∈ WL := List.mem_filter.mpr ⟨List.mem_append_left _ (List.mem_of_getElem? (i := 47) rfl), rfl⟩
set_option maxRecDepth 20000 in
theorem qs_X11_isIdleBy : Cond.selects RX11 yX11_isIdleBy yX11_isIdleBy ∈ WL := List.mem_filter.mpr ⟨List.mem_append_left _ (List.mem_of_getElem? (i := 48) rfl), rfl⟩
set_option maxRecDepth 20000 in
theorem qs_X11_ofOrigin : Cond.selects RX11 yX11_ofOrigin yX11_ofOrigin ∈ WL := List.mem_filter.mpr ⟨List.mem_append_left _ (List.mem_of_getElem? (i := 49) rfl), rfl⟩
set_option maxRecDepth 20000 in
theorem qs_X11_keepsPast : Cond.selects RX11 yX11_keepsPast yX11_keepsPast ∈ WL := List.mem_filter.mpr ⟨List.mem_append_left _ (List.mem_of_getElem? (i := 50) rfl), rfl⟩
set_option maxRecDepth 20000 in
theorem qs_X11_issues : Cond.selects RX11 yX11_issues yX11_issues ∈ WL := List.mem_filter.mpr ⟨List.mem_append_left _ (List.mem_of_getElem? (i := 51) rfl), rfl⟩
set_option maxRecDepth 20000 in
theorem qs_X11_newLicence : Cond.selects RX11 yX11_newLicence yX11_newLicence ∈ WL := List.mem_filter.mpr ⟨List.mem_append_left _ (List.mem_of_getElem? (i := 52) rfl), rfl⟩
set_option maxRecDepth 20000 in
theorem qs_X11_isLicence : Cond.selects RX11 yX11_isLicence yX11_isLicence ∈ WL := List.mem_filter.mpr ⟨List.mem_append_left _ (List.mem_of_getElem? (i := 53) rfl), rfl⟩
set_option maxRecDepth 20000 in
theorem qs_X11_leftOf : Cond.selects RX11 yX11_leftOf yX11_leftOf ∈ WL := List.mem_filter.mpr ⟨List.mem_append_left _ (List.mem_of_getElem? (i := 54) rfl), rfl⟩
set_option maxRecDepth 20000 in
theorem qs_X11_ends : Cond.selects RX11 yX11_ends yX11_ends ∈ WL := List.mem_filter.mpr ⟨List.mem_append_left _ (List.mem_of_getElem? (i := 55) rfl), rfl⟩
set_option maxRecDepth 20000 in
theorem qs_X11_comesBack : Cond.selects RX11 yX11_comesBack yX11_comesBack ∈ WL := List.mem_filter.mpr ⟨List.mem_append_left _ (List.mem_of_getElem? (i := 56) rfl), rfl⟩
set_option maxRecDepth 20000 in
theorem qs_X11_isOfThisPeriod : Cond.selects RX11 yX11_isOfThisPeriod yX11_isOfThisPeriod ∈ WL := List.mem_filter.mpr ⟨List.mem_append_left _ (List.mem_of_getElem? (i := 57) rfl), rfl⟩
set_option maxRecDepth 20000 in
theorem qs_X11_goesOver : Cond.selects RX11 yX11_goesOver yX11_goesOver ∈ WL := List.mem_filter.mpr ⟨List.mem_append_left _ (List.mem_of_getElem? (i := 58) rfl), rfl⟩
set_option maxRecDepth 20000 in
theorem qs_X11_owedOf : Cond.selects RX11 yX11_owedOf yX11_owedOf ∈ WL := List.mem_filter.mpr ⟨List.mem_append_left _ (List.mem_of_getElem? (i := 59) rfl), rfl⟩
set_option maxRecDepth 20000 in
theorem qs_X11_hasScheme : Cond.selects RX11 yX11_hasScheme yX11_hasScheme ∈ WL := List.mem_filter.mpr ⟨List.mem_append_left _ (List.mem_of_getElem? (i := 60) rfl), rfl⟩
set_option maxRecDepth 20000 in
theorem qs_X11_dayGoes : Cond.selects RX11 yX11_dayGoes yX11_dayGoes ∈ WL := List.mem_filter.mpr ⟨List.mem_append_left _ (List.mem_of_getElem? (i := 61) rfl), rfl⟩
set_option maxRecDepth 20000 in
theorem qs_X11_logs : Cond.selects RX11 yX11_logs yX11_logs ∈ WL := List.mem_filter.mpr ⟨List.mem_append_left _ (List.mem_of_getElem? (i := 62) rfl), rfl⟩
set_option maxRecDepth 20000 in
theorem qs_X11_yearBegins : Cond.selects RX11 yX11_yearBegins yX11_yearBegins ∈ WL := List.mem_filter.mpr ⟨List.mem_append_left _ (List.mem_of_getElem? (i := 63) rfl), rfl⟩
set_option maxRecDepth 20000 in
theorem qs_X11_becomes : Cond.selects RX11 yX11_becomes yX11_becomes ∈ WL := List.mem_filter.mpr ⟨List.mem_append_left _ (List.mem_of_getElem? (i := 64) rfl), rfl⟩
set_option maxRecDepth 20000 in
theorem qs_X11_rateOf : Cond.selects RX11 yX11_rateOf yX11_rateOf ∈ WL := List.mem_filter.mpr ⟨List.mem_append_left _ (List.mem_of_getElem? (i := 65) rfl), rfl⟩
set_option maxRecDepth 20000 in
theorem qs_X11_aheadOf : Cond.selects RX11 yX11_aheadOf yX11_aheadOf ∈ WL := List.mem_filter.mpr ⟨List.mem_append_left _ (List.mem_of_getElem? (i := 66) rfl), rfl⟩
set_option maxRecDepth 20000 in
theorem qs_X11_openMany : Cond.selects RX11 yX11_openMany yX11_openMany ∈ WL := List.mem_filter.mpr ⟨List.mem_append_left _ (List.mem_of_getElem? (i := 67) rfl), rfl⟩
set_option maxRecDepth 20000 in
theorem qs_X11_yearOf : Cond.selects RX11 yX11_yearOf yX11_yearOf ∈ WL := List.mem_filter.mpr ⟨List.mem_append_left _ (List.mem_of_getElem? (i := 68) rfl), rfl⟩
set_option maxRecDepth 20000 in
theorem qs_X11_sumOf : Cond.selects RX11 yX11_sumOf yX11_sumOf ∈ WL := List.mem_filter.mpr ⟨List.mem_append_left _ (List.mem_of_getElem? (i := 69) rfl), rfl⟩
set_option maxRecDepth 20000 in
theorem qs_X11_wouldCount : Cond.selects RX11 yX11_wouldCount yX11_wouldCount ∈ WL := List.mem_filter.mpr ⟨List.mem_append_left _ (List.mem_of_getElem? (i := 70) rfl), rfl⟩
set_option maxRecDepth 20000 in
theorem qs_X11_wouldBe : Cond.selects RX11 yX11_wouldBe yX11_wouldBe ∈ WL := List.mem_filter.mpr ⟨List.mem_append_left _ (List.mem_of_getElem? (i := 71) rfl), rfl⟩
set_option maxRecDepth 20000 in
theorem qs_X11_wouldAll : Cond.selects RX11 yX11_wouldAll yX11_wouldAll ∈ WL := List.mem_filter.mpr ⟨List.mem_append_left _ (List.mem_of_getElem? (i := 72) rfl), rfl⟩
set_option maxRecDepth 20000 in
theorem qs_X11_writesAll : Cond.selects RX11 yX11_writesAll yX11_writesAll ∈ WL := List.mem_filter.mpr ⟨List.mem_append_left _ (List.mem_of_getElem? (i := 73) rfl), rfl⟩
set_option maxRecDepth 20000 in
theorem qs_X11_writesWord : Cond.selects RX11 yX11_writesWord yX11_writesWord ∈ WL := List.mem_filter.mpr ⟨List.mem_append_left _ (List.mem_of_getElem? (i := 74) rfl), rfl⟩
set_option maxRecDepth 20000 in
theorem qs_X11_writes : Cond.selects RX11 yX11_writes yX11_writes ∈ WL := List.mem_filter.mpr ⟨List.mem_append_left _ (List.mem_of_getElem? (i := 75) rfl), rfl⟩
set_option maxRecDepth 20000 in
theorem qs_X11_writesNumber : Cond.selects RX11 yX11_writesNumber yX11_writesNumber ∈ WL := List.mem_filter.mpr ⟨List.mem_append_left _ (List.mem_of_getElem? (i := 76) rfl), rfl⟩
set_option maxRecDepth 20000 in
theorem qs_X11_writesDigits : Cond.selects RX11 yX11_writesDigits yX11_writesDigits ∈ WL := List.mem_filter.mpr ⟨List.mem_append_left _ (List.mem_of_getElem? (i := 77) rfl), rfl⟩
set_option maxRecDepth 20000 in
theorem iw_X0 : ∀ w ∈ wsX00, w ∈ WL := by decide +kernel
set_option maxRecDepth 20000 in
theorem iw_X1 : ∀ w ∈ wsX10, w ∈ WL := by decide +kernel
set_option maxRecDepth 20000 in
theorem iw_X2 : ∀ w ∈ wsX20, w ∈ WL := by decide +kernel
set_option maxRecDepth 20000 in
theorem iw_X3 : ∀ w ∈ wsX30, w ∈ WL := by decide +kernel
set_option maxRecDepth 20000 in
theorem iw_X4 : ∀ w ∈ wsX40, w ∈ WL := by decide +kernel
set_option maxRecDepth 20000 in
theorem iw_X5 : ∀ w ∈ wsX50, w ∈ WL := by decide +kernel
set_option maxRecDepth 20000 in
theorem iw_X6 : ∀ w ∈ wsX60, w ∈ WL := by decide +kernel
set_option maxRecDepth 20000 in
theorem iw_X7 : ∀ w ∈ wsX70, w ∈ WL := by decide +kernel
set_option maxRecDepth 20000 in
theorem iw_X8 : ∀ w ∈ wsX80, w ∈ WL := by decide +kernel
set_option maxRecDepth 20000 in
theorem iw_X9 : ∀ w ∈ wsX90, w ∈ WL := by decide +kernel
set_option maxRecDepth 20000 in
theorem iw_X10 : ∀ w ∈ wsX100, w ∈ WL := by decide +kernel
set_option maxRecDepth 20000 in
theorem iw_X11 : ∀ w ∈ wsX110, w ∈ WL := by decide +kernel
