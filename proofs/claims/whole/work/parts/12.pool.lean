set_option maxRecDepth 20000 in
theorem nb_X10_7 : NB RX4 4 4 RX10 7 [.null, .null, vi 0, vi 0] := ⟨TX4, tyX4, rfl, iw_X4, tyX4_ok, ql_X10_7, qb_X4, qn_X4, by intro k hk; match k, hk with | 0, _ => rfl | 1, _ => rfl | 2, _ => rfl | 3, _ => rfl | n + 4, h => exact absurd h (by omega)⟩
set_option maxRecDepth 20000 in
theorem cb_X4_init : CB MX4_init 0 := ⟨qn_X4, qc_X4_init, ⟨by decide +kernel, by decide +kernel⟩, by decide +kernel, by decide⟩
set_option maxRecDepth 20000 in
theorem ci_X10_9 : CIN RX10 9 MX4_init 0 := ⟨cb_X4_init, qi_X4_init, rfl, rfl, "QuotaLicences", List.mem_of_getElem? (i := 0) rfl⟩
set_option maxRecDepth 20000 in
theorem fg_X10_10 : FG RX10 10 10 0 := ⟨RX10, TX10, 6, rfl, by decide, iw_X10, qf_X10_10⟩
set_option maxRecDepth 20000 in
theorem fp_X10_10 : FP0 RX10 10 10 0 true (.object "QuotaLicences$Reader") := ⟨RX10, TX10, 6, tyX10, rfl, by decide, iw_X10, qf_X10_10, tyX10_ok, nmX10, rfl, by decide +kernel, fun _ => rfl⟩
set_option maxRecDepth 20000 in
theorem nb_X10_16 : NB RX6 6 3 RX10 16 [vi 0, vi 0, vi 0] := ⟨TX6, tyX6, rfl, iw_X6, tyX6_ok, ql_X10_16, qb_X6, qn_X6, by intro k hk; match k, hk with | 0, _ => rfl | 1, _ => rfl | 2, _ => rfl | n + 3, h => exact absurd h (by omega)⟩
set_option maxRecDepth 20000 in
theorem cb_X6_init : CB MX6_init 0 := ⟨qn_X6, qc_X6_init, ⟨by decide +kernel, by decide +kernel⟩, by decide +kernel, by decide⟩
set_option maxRecDepth 20000 in
theorem ci_X10_18 : CIN RX10 18 MX6_init 0 := ⟨cb_X6_init, qi_X6_init, rfl, rfl, "QuotaLicences", List.mem_of_getElem? (i := 3) rfl⟩
set_option maxRecDepth 20000 in
theorem fg_X10_19 : FG RX10 19 10 1 := ⟨RX10, TX10, 6, rfl, by decide, iw_X10, qf_X10_19⟩
set_option maxRecDepth 20000 in
theorem fp_X10_19 : FP0 RX10 19 10 1 true (.object "QuotaLicences$Spelling") := ⟨RX10, TX10, 6, tyX10, rfl, by decide, iw_X10, qf_X10_19, tyX10_ok, nmX10, rfl, by decide +kernel, fun _ => rfl⟩
set_option maxRecDepth 20000 in
theorem nb_X10_23 : NB RX7 7 7 RX10 23 [.null, .null, .null, .null, .null, .null, vi 0] := ⟨TX7, tyX7, rfl, iw_X7, tyX7_ok, ql_X10_23, qb_X7, qn_X7, by intro k hk; match k, hk with | 0, _ => rfl | 1, _ => rfl | 2, _ => rfl | 3, _ => rfl | 4, _ => rfl | 5, _ => rfl | 6, _ => rfl | n + 7, h => exact absurd h (by omega)⟩
set_option maxRecDepth 20000 in
theorem cb_X7_init : CB MX7_init 0 := ⟨qn_X7, qc_X7_init, ⟨by decide +kernel, by decide +kernel⟩, by decide +kernel, by decide⟩
set_option maxRecDepth 20000 in
theorem ci_X10_25 : CIN RX10 25 MX7_init 0 := ⟨cb_X7_init, qi_X7_init, rfl, rfl, "QuotaLicences", List.mem_of_getElem? (i := 4) rfl⟩
set_option maxRecDepth 20000 in
theorem fg_X10_26 : FG RX10 26 10 2 := ⟨RX10, TX10, 6, rfl, by decide, iw_X10, qf_X10_26⟩
set_option maxRecDepth 20000 in
theorem fp_X10_26 : FP0 RX10 26 10 2 true (.object "QuotaLicences$State") := ⟨RX10, TX10, 6, tyX10, rfl, by decide, iw_X10, qf_X10_26, tyX10_ok, nmX10, rfl, by decide +kernel, fun _ => rfl⟩
set_option maxRecDepth 20000 in
theorem nb_X10_30 : NB RX0 0 3 RX10 30 [.null, vi 0, vi 0] := ⟨TX0, tyX0, rfl, iw_X0, tyX0_ok, ql_X10_30, qb_X0, qn_X0, by intro k hk; match k, hk with | 0, _ => rfl | 1, _ => rfl | 2, _ => rfl | n + 3, h => exact absurd h (by omega)⟩
set_option maxRecDepth 20000 in
theorem cb_X0_init : CB MX0_init 0 := ⟨qn_X0, qc_X0_init, ⟨by decide +kernel, by decide +kernel⟩, by decide +kernel, by decide⟩
set_option maxRecDepth 20000 in
theorem ci_X10_32 : CIN RX10 32 MX0_init 0 := ⟨cb_X0_init, qi_X0_init, rfl, rfl, "QuotaLicences", List.mem_of_getElem? (i := 9) rfl⟩
set_option maxRecDepth 20000 in
theorem fg_X10_33 : FG RX10 33 10 3 := ⟨RX10, TX10, 6, rfl, by decide, iw_X10, qf_X10_33⟩
set_option maxRecDepth 20000 in
theorem fp_X10_33 : FP0 RX10 33 10 3 true (.object "QuotaLicences$Acts") := ⟨RX10, TX10, 6, tyX10, rfl, by decide, iw_X10, qf_X10_33, tyX10_ok, nmX10, rfl, by decide +kernel, fun _ => rfl⟩
set_option maxRecDepth 20000 in
theorem fg_X10_37 : FG RX10 37 10 4 := ⟨RX10, TX10, 6, rfl, by decide, iw_X10, qf_X10_37⟩
set_option maxRecDepth 20000 in
theorem fp_X10_37 : FP0 RX10 37 10 4 true (.array (.object "QuotaLicences$State")) := ⟨RX10, TX10, 6, tyX10, rfl, by decide, iw_X10, qf_X10_37, tyX10_ok, nmX10, rfl, by decide +kernel, fun _ => rfl⟩
set_option maxRecDepth 20000 in
theorem nb_X10_41 : NB RX2 2 3 RX10 41 [.null, vi 0, vi 0] := ⟨TX2, tyX2, rfl, iw_X2, tyX2_ok, ql_X10_41, qb_X2, qn_X2, by intro k hk; match k, hk with | 0, _ => rfl | 1, _ => rfl | 2, _ => rfl | n + 3, h => exact absurd h (by omega)⟩
set_option maxRecDepth 20000 in
theorem cb_X2_init : CB MX2_init 0 := ⟨qn_X2, qc_X2_init, ⟨by decide +kernel, by decide +kernel⟩, by decide +kernel, by decide⟩
set_option maxRecDepth 20000 in
theorem ci_X10_43 : CIN RX10 43 MX2_init 0 := ⟨cb_X2_init, qi_X2_init, rfl, rfl, "QuotaLicences", List.mem_of_getElem? (i := 10) rfl⟩
set_option maxRecDepth 20000 in
theorem fg_X10_44 : FG RX10 44 10 5 := ⟨RX10, TX10, 6, rfl, by decide, iw_X10, qf_X10_44⟩
set_option maxRecDepth 20000 in
theorem fp_X10_44 : FP0 RX10 44 10 5 true (.object "QuotaLicences$Notes") := ⟨RX10, TX10, 6, tyX10, rfl, by decide, iw_X10, qf_X10_44, tyX10_ok, nmX10, rfl, by decide +kernel, fun _ => rfl⟩
set_option maxRecDepth 20000 in
theorem fg_X10_48 : FG RX10 48 4 0 := ⟨RX4, TX4, 4, rfl, by decide, iw_X4, qf_X10_48⟩
set_option maxRecDepth 20000 in
theorem cb_X8_takeIn : CB MX8_takeIn 5 := ⟨qn_X8, qc_X8_takeIn, ⟨by decide +kernel, by decide +kernel⟩, by decide +kernel, by decide⟩
set_option maxRecDepth 20000 in
theorem cv_X10_52 : CV RX10 52 MX8_takeIn 5 := ⟨cb_X8_takeIn, qi_X8_takeIn, qs_X8_takeIn, qm_X10_52⟩
set_option maxRecDepth 20000 in
theorem cb_X8_cutTo : CB MX8_cutTo 1 := ⟨qn_X8, qc_X8_cutTo, ⟨by decide +kernel, by decide +kernel⟩, by decide +kernel, by decide⟩
set_option maxRecDepth 20000 in
theorem cv_X10_58 : CV RX10 58 MX8_cutTo 1 := ⟨cb_X8_cutTo, qi_X8_cutTo, qs_X8_cutTo, qm_X10_58⟩
set_option maxRecDepth 20000 in
theorem cb_X4_readText : CB MX4_readText 0 := ⟨qn_X4, qc_X4_readText, ⟨by decide +kernel, by decide +kernel⟩, by decide +kernel, by decide⟩
set_option maxRecDepth 20000 in
theorem cv_X10_62 : CV RX10 62 MX4_readText 0 := ⟨cb_X4_readText, qi_X4_readText, qs_X4_readText, qm_X10_62⟩
set_option maxRecDepth 20000 in
theorem fg_X10_66 : FG RX10 66 8 1 := ⟨RX8, TX8, 2, rfl, by decide, iw_X8, qf_X10_66⟩
set_option maxRecDepth 20000 in
theorem fp_X10_66 : FP0 RX10 66 8 1 false .int := ⟨RX8, TX8, 2, tyX8, rfl, by decide, iw_X8, qf_X10_66, tyX8_ok, nmX8, rfl, by decide +kernel, fun q => by cases q⟩
set_option maxRecDepth 20000 in
theorem fg_X10_70 : FG RX10 70 4 1 := ⟨RX4, TX4, 4, rfl, by decide, iw_X4, qf_X10_70⟩
set_option maxRecDepth 20000 in
theorem cb_X7_startWith : CB MX7_startWith 1 := ⟨qn_X7, qc_X7_startWith, ⟨by decide +kernel, by decide +kernel⟩, by decide +kernel, by decide⟩
set_option maxRecDepth 20000 in
theorem cv_X10_74 : CV RX10 74 MX7_startWith 1 := ⟨cb_X7_startWith, qi_X7_startWith, qs_X7_startWith, qm_X10_74⟩
set_option maxRecDepth 20000 in
theorem cb_X0_forget : CB MX0_forget 0 := ⟨qn_X0, qc_X0_forget, ⟨by decide +kernel, by decide +kernel⟩, by decide +kernel, by decide⟩
set_option maxRecDepth 20000 in
theorem cv_X10_78 : CV RX10 78 MX0_forget 0 := ⟨cb_X0_forget, qi_X0_forget, qs_X0_forget, qm_X10_78⟩
set_option maxRecDepth 20000 in
theorem fg_X10_81 : FG RX10 81 7 0 := ⟨RX7, TX7, 7, rfl, by decide, iw_X7, qf_X10_81⟩
set_option maxRecDepth 20000 in
theorem fg_X10_82 : FG RX10 82 5 3 := ⟨RX5, TX5, 5, rfl, by decide, iw_X5, qf_X10_82⟩
set_option maxRecDepth 20000 in
theorem cb_X7_hasPair : CB MX7_hasPair 2 := ⟨qn_X7, qc_X7_hasPair, ⟨by decide +kernel, by decide +kernel⟩, by decide +kernel, by decide⟩
set_option maxRecDepth 20000 in
theorem cv_X10_87 : CV RX10 87 MX7_hasPair 2 := ⟨cb_X7_hasPair, qi_X7_hasPair, qs_X7_hasPair, qm_X10_87⟩
set_option maxRecDepth 20000 in
theorem cb_X10_isAmount : CB MX10_isAmount 1 := ⟨qn_X10, qc_X10_isAmount, ⟨by decide +kernel, by decide +kernel⟩, by decide +kernel, by decide⟩
set_option maxRecDepth 20000 in
theorem cs_X10_91 : CS RX10 91 MX10_isAmount 1 := ⟨cb_X10_isAmount, qt_X10_isAmount, qm_X10_91⟩
set_option maxRecDepth 20000 in
theorem cb_X7_offerNow : CB MX7_offerNow 3 := ⟨qn_X7, qc_X7_offerNow, ⟨by decide +kernel, by decide +kernel⟩, by decide +kernel, by decide⟩
set_option maxRecDepth 20000 in
theorem cv_X10_95 : CV RX10 95 MX7_offerNow 3 := ⟨cb_X7_offerNow, qi_X7_offerNow, qs_X7_offerNow, qm_X10_95⟩
set_option maxRecDepth 20000 in
theorem cb_X0_remember : CB MX0_remember 1 := ⟨qn_X0, qc_X0_remember, ⟨by decide +kernel, by decide +kernel⟩, by decide +kernel, by decide⟩
set_option maxRecDepth 20000 in
theorem cv_X10_99 : CV RX10 99 MX0_remember 1 := ⟨cb_X0_remember, qi_X0_remember, qs_X0_remember, qm_X10_99⟩
set_option maxRecDepth 20000 in
theorem cb_X7_grant : CB MX7_grant 3 := ⟨qn_X7, qc_X7_grant, ⟨by decide +kernel, by decide +kernel⟩, by decide +kernel, by decide⟩
set_option maxRecDepth 20000 in
theorem cv_X10_103 : CV RX10 103 MX7_grant 3 := ⟨cb_X7_grant, qi_X7_grant, qs_X7_grant, qm_X10_103⟩
set_option maxRecDepth 20000 in
theorem fg_X10_106 : FG RX10 106 7 1 := ⟨RX7, TX7, 7, rfl, by decide, iw_X7, qf_X10_106⟩
set_option maxRecDepth 20000 in
theorem cb_X1_has : CB MX1_has 1 := ⟨qn_X1, qc_X1_has, ⟨by decide +kernel, by decide +kernel⟩, by decide +kernel, by decide⟩
set_option maxRecDepth 20000 in
theorem cv_X10_110 : CV RX10 110 MX1_has 1 := ⟨cb_X1_has, qi_X1_has, qs_X1_has, qm_X10_110⟩
set_option maxRecDepth 20000 in
theorem cb_X1_isOpen : CB MX1_isOpen 1 := ⟨qn_X1, qc_X1_isOpen, ⟨by decide +kernel, by decide +kernel⟩, by decide +kernel, by decide⟩
set_option maxRecDepth 20000 in
theorem cv_X10_115 : CV RX10 115 MX1_isOpen 1 := ⟨cb_X1_isOpen, qi_X1_isOpen, qs_X1_isOpen, qm_X10_115⟩
set_option maxRecDepth 20000 in
theorem cb_X1_remains : CB MX1_remains 1 := ⟨qn_X1, qc_X1_remains, ⟨by decide +kernel, by decide +kernel⟩, by decide +kernel, by decide⟩
set_option maxRecDepth 20000 in
theorem cv_X10_118 : CV RX10 118 MX1_remains 1 := ⟨cb_X1_remains, qi_X1_remains, qs_X1_remains, qm_X10_118⟩
set_option maxRecDepth 20000 in
theorem cb_X7_importBy : CB MX7_importBy 2 := ⟨qn_X7, qc_X7_importBy, ⟨by decide +kernel, by decide +kernel⟩, by decide +kernel, by decide⟩
set_option maxRecDepth 20000 in
theorem cv_X10_121 : CV RX10 121 MX7_importBy 2 := ⟨cb_X7_importBy, qi_X7_importBy, qs_X7_importBy, qm_X10_121⟩
set_option maxRecDepth 20000 in
theorem cb_X7_closeIntoPool : CB MX7_closeIntoPool 2 := ⟨qn_X7, qc_X7_closeIntoPool, ⟨by decide +kernel, by decide +kernel⟩, by decide +kernel, by decide⟩
set_option maxRecDepth 20000 in
theorem cv_X10_125 : CV RX10 125 MX7_closeIntoPool 2 := ⟨cb_X7_closeIntoPool, qi_X7_closeIntoPool, qs_X7_closeIntoPool, qm_X10_125⟩
set_option maxRecDepth 20000 in
theorem fg_X10_129 : FG RX10 129 7 5 := ⟨RX7, TX7, 7, rfl, by decide, iw_X7, qf_X10_129⟩
set_option maxRecDepth 20000 in
theorem cb_X7_hasImporter : CB MX7_hasImporter 1 := ⟨qn_X7, qc_X7_hasImporter, ⟨by decide +kernel, by decide +kernel⟩, by decide +kernel, by decide⟩
set_option maxRecDepth 20000 in
theorem cv_X10_133 : CV RX10 133 MX7_hasImporter 1 := ⟨cb_X7_hasImporter, qi_X7_hasImporter, qs_X7_hasImporter, qm_X10_133⟩
set_option maxRecDepth 20000 in
theorem fg_X10_136 : FG RX10 136 1 0 := ⟨RX1, TX1, 11, rfl, by decide, iw_X1, qf_X10_136⟩
set_option maxRecDepth 20000 in
theorem fg_X10_139 : FG RX10 139 1 10 := ⟨RX1, TX1, 11, rfl, by decide, iw_X1, qf_X10_139⟩
set_option maxRecDepth 20000 in
theorem fg_X10_142 : FG RX10 142 7 6 := ⟨RX7, TX7, 7, rfl, by decide, iw_X7, qf_X10_142⟩
set_option maxRecDepth 20000 in
theorem cb_X1_handOn : CB MX1_handOn 4 := ⟨qn_X1, qc_X1_handOn, ⟨by decide +kernel, by decide +kernel⟩, by decide +kernel, by decide⟩
set_option maxRecDepth 20000 in
theorem cv_X10_145 : CV RX10 145 MX1_handOn 4 := ⟨cb_X1_handOn, qi_X1_handOn, qs_X1_handOn, qm_X10_145⟩
set_option maxRecDepth 20000 in
theorem cb_X1_areAlike : CB MX1_areAlike 2 := ⟨qn_X1, qc_X1_areAlike, ⟨by decide +kernel, by decide +kernel⟩, by decide +kernel, by decide⟩
set_option maxRecDepth 20000 in
theorem cv_X10_149 : CV RX10 149 MX1_areAlike 2 := ⟨cb_X1_areAlike, qi_X1_areAlike, qs_X1_areAlike, qm_X10_149⟩
set_option maxRecDepth 20000 in
theorem cb_X1_takeOver : CB MX1_takeOver 3 := ⟨qn_X1, qc_X1_takeOver, ⟨by decide +kernel, by decide +kernel⟩, by decide +kernel, by decide⟩
set_option maxRecDepth 20000 in
theorem cv_X10_152 : CV RX10 152 MX1_takeOver 3 := ⟨cb_X1_takeOver, qi_X1_takeOver, qs_X1_takeOver, qm_X10_152⟩
set_option maxRecDepth 20000 in
theorem fg_X10_156 : FG RX10 156 7 2 := ⟨RX7, TX7, 7, rfl, by decide, iw_X7, qf_X10_156⟩
set_option maxRecDepth 20000 in
theorem cb_X10_pairOf : CB MX10_pairOf 2 := ⟨qn_X10, qc_X10_pairOf, ⟨by decide +kernel, by decide +kernel⟩, by decide +kernel, by decide⟩
set_option maxRecDepth 20000 in
theorem cs_X10_160 : CS RX10 160 MX10_pairOf 2 := ⟨cb_X10_pairOf, qt_X10_pairOf, qm_X10_160⟩
set_option maxRecDepth 20000 in
theorem cb_X3_isTraditional : CB MX3_isTraditional 1 := ⟨qn_X3, qc_X3_isTraditional, ⟨by decide +kernel, by decide +kernel⟩, by decide +kernel, by decide⟩
set_option maxRecDepth 20000 in
theorem cv_X10_163 : CV RX10 163 MX3_isTraditional 1 := ⟨cb_X3_isTraditional, qi_X3_isTraditional, qs_X3_isTraditional, qm_X10_163⟩
set_option maxRecDepth 20000 in
theorem fg_X10_168 : FG RX10 168 3 3 := ⟨RX3, TX3, 7, rfl, by decide, iw_X3, qf_X10_168⟩
set_option maxRecDepth 20000 in
theorem cb_X7_importWithout : CB MX7_importWithout 4 := ⟨qn_X7, qc_X7_importWithout, ⟨by decide +kernel, by decide +kernel⟩, by decide +kernel, by decide⟩
set_option maxRecDepth 20000 in
theorem cv_X10_173 : CV RX10 173 MX7_importWithout 4 := ⟨cb_X7_importWithout, qi_X7_importWithout, qs_X7_importWithout, qm_X10_173⟩
set_option maxRecDepth 20000 in
theorem cb_X10_bitsOf : CB MX10_bitsOf 1 := ⟨qn_X10, qc_X10_bitsOf, ⟨by decide +kernel, by decide +kernel⟩, by decide +kernel, by decide⟩
set_option maxRecDepth 20000 in
theorem cs_X10_177 : CS RX10 177 MX10_bitsOf 1 := ⟨cb_X10_bitsOf, qt_X10_bitsOf, qm_X10_177⟩
set_option maxRecDepth 20000 in
theorem cb_X7_hasScheme : CB MX7_hasScheme 0 := ⟨qn_X7, qc_X7_hasScheme, ⟨by decide +kernel, by decide +kernel⟩, by decide +kernel, by decide⟩
set_option maxRecDepth 20000 in
theorem cv_X10_181 : CV RX10 181 MX7_hasScheme 0 := ⟨cb_X7_hasScheme, qi_X7_hasScheme, qs_X7_hasScheme, qm_X10_181⟩
set_option maxRecDepth 20000 in
theorem cb_X10_isDays : CB MX10_isDays 1 := ⟨qn_X10, qc_X10_isDays, ⟨by decide +kernel, by decide +kernel⟩, by decide +kernel, by decide⟩
set_option maxRecDepth 20000 in
theorem cs_X10_185 : CS RX10 185 MX10_isDays 1 := ⟨cb_X10_isDays, qt_X10_isDays, qm_X10_185⟩
set_option maxRecDepth 20000 in
theorem cb_X7_passDay : CB MX7_passDay 0 := ⟨qn_X7, qc_X7_passDay, ⟨by decide +kernel, by decide +kernel⟩, by decide +kernel, by decide⟩
set_option maxRecDepth 20000 in
theorem cv_X10_188 : CV RX10 188 MX7_passDay 0 := ⟨cb_X7_passDay, qi_X7_passDay, qs_X7_passDay, qm_X10_188⟩
set_option maxRecDepth 20000 in
theorem cb_X7_hasOrigin : CB MX7_hasOrigin 1 := ⟨qn_X7, qc_X7_hasOrigin, ⟨by decide +kernel, by decide +kernel⟩, by decide +kernel, by decide⟩
set_option maxRecDepth 20000 in
theorem cv_X10_191 : CV RX10 191 MX7_hasOrigin 1 := ⟨cb_X7_hasOrigin, qi_X7_hasOrigin, qs_X7_hasOrigin, qm_X10_191⟩
set_option maxRecDepth 20000 in
theorem fg_X10_195 : FG RX10 195 5 1 := ⟨RX5, TX5, 5, rfl, by decide, iw_X5, qf_X10_195⟩
set_option maxRecDepth 20000 in
theorem cb_X10_isTold : CB MX10_isTold 1 := ⟨qn_X10, qc_X10_isTold, ⟨by decide +kernel, by decide +kernel⟩, by decide +kernel, by decide⟩
set_option maxRecDepth 20000 in
theorem cs_X10_198 : CS RX10 198 MX10_isTold 1 := ⟨cb_X10_isTold, qt_X10_isTold, qm_X10_198⟩
set_option maxRecDepth 20000 in
theorem fg_X10_207 : FG RX10 207 5 0 := ⟨RX5, TX5, 5, rfl, by decide, iw_X5, qf_X10_207⟩
set_option maxRecDepth 20000 in
theorem cb_X0_takeBackInto : CB MX0_takeBackInto 1 := ⟨qn_X0, qc_X0_takeBackInto, ⟨by decide +kernel, by decide +kernel⟩, by decide +kernel, by decide⟩
set_option maxRecDepth 20000 in
theorem cv_X10_210 : CV RX10 210 MX0_takeBackInto 1 := ⟨cb_X0_takeBackInto, qi_X0_takeBackInto, qs_X0_takeBackInto, qm_X10_210⟩
set_option maxRecDepth 20000 in
theorem cb_X7_copyFrom : CB MX7_copyFrom 1 := ⟨qn_X7, qc_X7_copyFrom, ⟨by decide +kernel, by decide +kernel⟩, by decide +kernel, by decide⟩
set_option maxRecDepth 20000 in
theorem cv_X10_214 : CV RX10 214 MX7_copyFrom 1 := ⟨cb_X7_copyFrom, qi_X7_copyFrom, qs_X7_copyFrom, qm_X10_214⟩
set_option maxRecDepth 20000 in
theorem cb_X3_figure : CB MX3_figure 2 := ⟨qn_X3, qc_X3_figure, ⟨by decide +kernel, by decide +kernel⟩, by decide +kernel, by decide⟩
set_option maxRecDepth 20000 in
theorem cv_X10_217 : CV RX10 217 MX3_figure 2 := ⟨cb_X3_figure, qi_X3_figure, qs_X3_figure, qm_X10_217⟩
set_option maxRecDepth 20000 in
theorem fg_X10_220 : FG RX10 220 7 3 := ⟨RX7, TX7, 7, rfl, by decide, iw_X7, qf_X10_220⟩
set_option maxRecDepth 20000 in
theorem fg_X10_224 : FG RX10 224 9 0 := ⟨RX9, TX9, 3, rfl, by decide, iw_X9, qf_X10_224⟩
set_option maxRecDepth 20000 in
theorem cb_X5_inYear : CB MX5_inYear 2 := ⟨qn_X5, qc_X5_inYear, ⟨by decide +kernel, by decide +kernel⟩, by decide +kernel, by decide⟩
set_option maxRecDepth 20000 in
theorem cv_X10_229 : CV RX10 229 MX5_inYear 2 := ⟨cb_X5_inYear, qi_X5_inYear, qs_X5_inYear, qm_X10_229⟩
set_option maxRecDepth 20000 in
theorem fg_X10_232 : FG RX10 232 3 1 := ⟨RX3, TX3, 7, rfl, by decide, iw_X3, qf_X10_232⟩
set_option maxRecDepth 20000 in
theorem cb_X5_inOldYears : CB MX5_inOldYears 1 := ⟨qn_X5, qc_X5_inOldYears, ⟨by decide +kernel, by decide +kernel⟩, by decide +kernel, by decide⟩
set_option maxRecDepth 20000 in
theorem cv_X10_235 : CV RX10 235 MX5_inOldYears 1 := ⟨cb_X5_inOldYears, qi_X5_inOldYears, qs_X5_inOldYears, qm_X10_235⟩
set_option maxRecDepth 20000 in
theorem fg_X10_240 : FG RX10 240 3 2 := ⟨RX3, TX3, 7, rfl, by decide, iw_X3, qf_X10_240⟩
set_option maxRecDepth 20000 in
theorem fg_X10_243 : FG RX10 243 1 1 := ⟨RX1, TX1, 11, rfl, by decide, iw_X1, qf_X10_243⟩
set_option maxRecDepth 20000 in
theorem fg_X10_246 : FG RX10 246 1 2 := ⟨RX1, TX1, 11, rfl, by decide, iw_X1, qf_X10_246⟩
set_option maxRecDepth 20000 in
theorem fg_X10_249 : FG RX10 249 1 3 := ⟨RX1, TX1, 11, rfl, by decide, iw_X1, qf_X10_249⟩
set_option maxRecDepth 20000 in
theorem fg_X10_252 : FG RX10 252 1 5 := ⟨RX1, TX1, 11, rfl, by decide, iw_X1, qf_X10_252⟩
set_option maxRecDepth 20000 in
theorem fg_X10_255 : FG RX10 255 1 6 := ⟨RX1, TX1, 11, rfl, by decide, iw_X1, qf_X10_255⟩
set_option maxRecDepth 20000 in
theorem fg_X10_258 : FG RX10 258 1 4 := ⟨RX1, TX1, 11, rfl, by decide, iw_X1, qf_X10_258⟩
set_option maxRecDepth 20000 in
theorem fg_X10_261 : FG RX10 261 9 1 := ⟨RX9, TX9, 3, rfl, by decide, iw_X9, qf_X10_261⟩
set_option maxRecDepth 20000 in
theorem cb_X1_rateOf : CB MX1_rateOf 1 := ⟨qn_X1, qc_X1_rateOf, ⟨by decide +kernel, by decide +kernel⟩, by decide +kernel, by decide⟩
set_option maxRecDepth 20000 in
theorem cv_X10_264 : CV RX10 264 MX1_rateOf 1 := ⟨cb_X1_rateOf, qi_X1_rateOf, qs_X1_rateOf, qm_X10_264⟩
set_option maxRecDepth 20000 in
theorem cb_X7_isKeptOut : CB MX7_isKeptOut 2 := ⟨qn_X7, qc_X7_isKeptOut, ⟨by decide +kernel, by decide +kernel⟩, by decide +kernel, by decide⟩
set_option maxRecDepth 20000 in
theorem cv_X10_268 : CV RX10 268 MX7_isKeptOut 2 := ⟨cb_X7_isKeptOut, qi_X7_isKeptOut, qs_X7_isKeptOut, qm_X10_268⟩
set_option maxRecDepth 20000 in
theorem fg_X10_271 : FG RX10 271 7 4 := ⟨RX7, TX7, 7, rfl, by decide, iw_X7, qf_X10_271⟩
set_option maxRecDepth 20000 in
theorem cb_X1_openOnes : CB MX1_openOnes 0 := ⟨qn_X1, qc_X1_openOnes, ⟨by decide +kernel, by decide +kernel⟩, by decide +kernel, by decide⟩
set_option maxRecDepth 20000 in
theorem cv_X10_275 : CV RX10 275 MX1_openOnes 0 := ⟨cb_X1_openOnes, qi_X1_openOnes, qs_X1_openOnes, qm_X10_275⟩
set_option maxRecDepth 20000 in
theorem cb_X1_openAhead : CB MX1_openAhead 1 := ⟨qn_X1, qc_X1_openAhead, ⟨by decide +kernel, by decide +kernel⟩, by decide +kernel, by decide⟩
set_option maxRecDepth 20000 in
theorem cv_X10_278 : CV RX10 278 MX1_openAhead 1 := ⟨cb_X1_openAhead, qi_X1_openAhead, qs_X1_openAhead, qm_X10_278⟩
set_option maxRecDepth 20000 in
theorem fg_X10_281 : FG RX10 281 5 4 := ⟨RX5, TX5, 5, rfl, by decide, iw_X5, qf_X10_281⟩
set_option maxRecDepth 20000 in
theorem cb_X7_importersAhead : CB MX7_importersAhead 1 := ⟨qn_X7, qc_X7_importersAhead, ⟨by decide +kernel, by decide +kernel⟩, by decide +kernel, by decide⟩
set_option maxRecDepth 20000 in
theorem cv_X10_284 : CV RX10 284 MX7_importersAhead 1 := ⟨cb_X7_importersAhead, qi_X7_importersAhead, qs_X7_importersAhead, qm_X10_284⟩
set_option maxRecDepth 20000 in
theorem fg_X10_287 : FG RX10 287 3 4 := ⟨RX3, TX3, 7, rfl, by decide, iw_X3, qf_X10_287⟩
set_option maxRecDepth 20000 in
theorem cb_X7_leftIn : CB MX7_leftIn 1 := ⟨qn_X7, qc_X7_leftIn, ⟨by decide +kernel, by decide +kernel⟩, by decide +kernel, by decide⟩
set_option maxRecDepth 20000 in
theorem cv_X10_290 : CV RX10 290 MX7_leftIn 1 := ⟨cb_X7_leftIn, qi_X7_leftIn, qs_X7_leftIn, qm_X10_290⟩
set_option maxRecDepth 20000 in
theorem cb_X7_takenIn : CB MX7_takenIn 1 := ⟨qn_X7, qc_X7_takenIn, ⟨by decide +kernel, by decide +kernel⟩, by decide +kernel, by decide⟩
set_option maxRecDepth 20000 in
theorem cv_X10_293 : CV RX10 293 MX7_takenIn 1 := ⟨cb_X7_takenIn, qi_X7_takenIn, qs_X7_takenIn, qm_X10_293⟩
set_option maxRecDepth 20000 in
theorem cb_X7_shareBy : CB MX7_shareBy 4 := ⟨qn_X7, qc_X7_shareBy, ⟨by decide +kernel, by decide +kernel⟩, by decide +kernel, by decide⟩
set_option maxRecDepth 20000 in
theorem cv_X10_296 : CV RX10 296 MX7_shareBy 4 := ⟨cb_X7_shareBy, qi_X7_shareBy, qs_X7_shareBy, qm_X10_296⟩
set_option maxRecDepth 20000 in
theorem fg_X10_299 : FG RX10 299 1 9 := ⟨RX1, TX1, 11, rfl, by decide, iw_X1, qf_X10_299⟩
set_option maxRecDepth 20000 in
theorem cb_X1_usedBy : CB MX1_usedBy 2 := ⟨qn_X1, qc_X1_usedBy, ⟨by decide +kernel, by decide +kernel⟩, by decide +kernel, by decide⟩
set_option maxRecDepth 20000 in
theorem cv_X10_304 : CV RX10 304 MX1_usedBy 2 := ⟨cb_X1_usedBy, qi_X1_usedBy, qs_X1_usedBy, qm_X10_304⟩
set_option maxRecDepth 20000 in
theorem cb_X1_waitedBy : CB MX1_waitedBy 2 := ⟨qn_X1, qc_X1_waitedBy, ⟨by decide +kernel, by decide +kernel⟩, by decide +kernel, by decide⟩
set_option maxRecDepth 20000 in
theorem cv_X10_307 : CV RX10 307 MX1_waitedBy 2 := ⟨cb_X1_waitedBy, qi_X1_waitedBy, qs_X1_waitedBy, qm_X10_307⟩
set_option maxRecDepth 20000 in
theorem fg_X10_310 : FG RX10 310 3 6 := ⟨RX3, TX3, 7, rfl, by decide, iw_X3, qf_X10_310⟩
set_option maxRecDepth 20000 in
theorem fg_X10_313 : FG RX10 313 3 5 := ⟨RX3, TX3, 7, rfl, by decide, iw_X3, qf_X10_313⟩
set_option maxRecDepth 20000 in
theorem cb_X10_logPlace : CB MX10_logPlace 3 := ⟨qn_X10, qc_X10_logPlace, ⟨by decide +kernel, by decide +kernel⟩, by decide +kernel, by decide⟩
set_option maxRecDepth 20000 in
theorem cs_X10_316 : CS RX10 316 MX10_logPlace 3 := ⟨cb_X10_logPlace, qt_X10_logPlace, qm_X10_316⟩
set_option maxRecDepth 20000 in
theorem cb_X7_isIdle : CB MX7_isIdle 1 := ⟨qn_X7, qc_X7_isIdle, ⟨by decide +kernel, by decide +kernel⟩, by decide +kernel, by decide⟩
set_option maxRecDepth 20000 in
theorem cv_X10_319 : CV RX10 319 MX7_isIdle 1 := ⟨cb_X7_isIdle, qi_X7_isIdle, qs_X7_isIdle, qm_X10_319⟩
set_option maxRecDepth 20000 in
theorem cb_X1_isFor : CB MX1_isFor 3 := ⟨qn_X1, qc_X1_isFor, ⟨by decide +kernel, by decide +kernel⟩, by decide +kernel, by decide⟩
set_option maxRecDepth 20000 in
theorem cv_X10_322 : CV RX10 322 MX1_isFor 3 := ⟨cb_X1_isFor, qi_X1_isFor, qs_X1_isFor, qm_X10_322⟩
set_option maxRecDepth 20000 in
theorem cb_J9_max_7cf53 : CB MJ9_max_7cf53 2 := ⟨qn_J9, qc_J9_max_7cf53, ⟨by decide +kernel, by decide +kernel⟩, by decide +kernel, by decide⟩
set_option maxRecDepth 20000 in
theorem cs_X10_326 : CS RX10 326 MJ9_max_7cf53 2 := ⟨cb_J9_max_7cf53, qt_J9_max_7cf53, qm_X10_326⟩
set_option maxRecDepth 20000 in
theorem cb_X9_importedBy : CB MX9_importedBy 1 := ⟨qn_X9, qc_X9_importedBy, ⟨by decide +kernel, by decide +kernel⟩, by decide +kernel, by decide⟩
set_option maxRecDepth 20000 in
theorem cv_X10_331 : CV RX10 331 MX9_importedBy 1 := ⟨cb_X9_importedBy, qi_X9_importedBy, qs_X9_importedBy, qm_X10_331⟩
set_option maxRecDepth 20000 in
theorem cb_X10_bitsOfFloat : CB MX10_bitsOfFloat 1 := ⟨qn_X10, qc_X10_bitsOfFloat, ⟨by decide +kernel, by decide +kernel⟩, by decide +kernel, by decide⟩
set_option maxRecDepth 20000 in
theorem cs_X10_334 : CS RX10 334 MX10_bitsOfFloat 1 := ⟨cb_X10_bitsOfFloat, qt_X10_bitsOfFloat, qm_X10_334⟩
set_option maxRecDepth 20000 in
theorem cb_X9_importedOf : CB MX9_importedOf 3 := ⟨qn_X9, qc_X9_importedOf, ⟨by decide +kernel, by decide +kernel⟩, by decide +kernel, by decide⟩
set_option maxRecDepth 20000 in
theorem cv_X10_338 : CV RX10 338 MX9_importedOf 3 := ⟨cb_X9_importedOf, qi_X9_importedOf, qs_X9_importedOf, qm_X10_338⟩
set_option maxRecDepth 20000 in
theorem cb_J9_min_7cf53 : CB MJ9_min_7cf53 2 := ⟨qn_J9, qc_J9_min_7cf53, ⟨by decide +kernel, by decide +kernel⟩, by decide +kernel, by decide⟩
set_option maxRecDepth 20000 in
theorem cs_X10_341 : CS RX10 341 MJ9_min_7cf53 2 := ⟨cb_J9_min_7cf53, qt_J9_min_7cf53, qm_X10_341⟩
set_option maxRecDepth 20000 in
theorem cb_X7_shareNextYear : CB MX7_shareNextYear 2 := ⟨qn_X7, qc_X7_shareNextYear, ⟨by decide +kernel, by decide +kernel⟩, by decide +kernel, by decide⟩
set_option maxRecDepth 20000 in
theorem cv_X10_344 : CV RX10 344 MX7_shareNextYear 2 := ⟨cb_X7_shareNextYear, qi_X7_shareNextYear, qs_X7_shareNextYear, qm_X10_344⟩
set_option maxRecDepth 20000 in
theorem fg_X10_347 : FG RX10 347 1 8 := ⟨RX1, TX1, 11, rfl, by decide, iw_X1, qf_X10_347⟩
set_option maxRecDepth 20000 in
theorem cb_X7_lesserAhead : CB MX7_lesserAhead 2 := ⟨qn_X7, qc_X7_lesserAhead, ⟨by decide +kernel, by decide +kernel⟩, by decide +kernel, by decide⟩
set_option maxRecDepth 20000 in
theorem cv_X10_350 : CV RX10 350 MX7_lesserAhead 2 := ⟨cb_X7_lesserAhead, qi_X7_lesserAhead, qs_X7_lesserAhead, qm_X10_350⟩
set_option maxRecDepth 20000 in
theorem cb_X7_offerOf : CB MX7_offerOf 5 := ⟨qn_X7, qc_X7_offerOf, ⟨by decide +kernel, by decide +kernel⟩, by decide +kernel, by decide⟩
set_option maxRecDepth 20000 in
theorem cv_X10_353 : CV RX10 353 MX7_offerOf 5 := ⟨cb_X7_offerOf, qi_X7_offerOf, qs_X7_offerOf, qm_X10_353⟩
set_option maxRecDepth 20000 in
theorem cb_X1_wasOpenAfter : CB MX1_wasOpenAfter 2 := ⟨qn_X1, qc_X1_wasOpenAfter, ⟨by decide +kernel, by decide +kernel⟩, by decide +kernel, by decide⟩
set_option maxRecDepth 20000 in
theorem cv_X10_356 : CV RX10 356 MX1_wasOpenAfter 2 := ⟨cb_X1_wasOpenAfter, qi_X1_wasOpenAfter, qs_X1_wasOpenAfter, qm_X10_356⟩
set_option maxRecDepth 20000 in
theorem cb_X7_neededFor : CB MX7_neededFor 1 := ⟨qn_X7, qc_X7_neededFor, ⟨by decide +kernel, by decide +kernel⟩, by decide +kernel, by decide⟩
set_option maxRecDepth 20000 in
theorem cv_X10_359 : CV RX10 359 MX7_neededFor 1 := ⟨cb_X7_neededFor, qi_X7_neededFor, qs_X7_neededFor, qm_X10_359⟩
set_option maxRecDepth 20000 in
theorem cb_X1_openOnesOf : CB MX1_openOnesOf 1 := ⟨qn_X1, qc_X1_openOnesOf, ⟨by decide +kernel, by decide +kernel⟩, by decide +kernel, by decide⟩
set_option maxRecDepth 20000 in
theorem cv_X10_362 : CV RX10 362 MX1_openOnesOf 1 := ⟨cb_X1_openOnesOf, qi_X1_openOnesOf, qs_X1_openOnesOf, qm_X10_362⟩
set_option maxRecDepth 20000 in
theorem cb_X1_remainsOf : CB MX1_remainsOf 1 := ⟨qn_X1, qc_X1_remainsOf, ⟨by decide +kernel, by decide +kernel⟩, by decide +kernel, by decide⟩
set_option maxRecDepth 20000 in
theorem cv_X10_365 : CV RX10 365 MX1_remainsOf 1 := ⟨cb_X1_remainsOf, qi_X1_remainsOf, qs_X1_remainsOf, qm_X10_365⟩
set_option maxRecDepth 20000 in
theorem cb_X1_earliestLastDayOf : CB MX1_earliestLastDayOf 1 := ⟨qn_X1, qc_X1_earliestLastDayOf, ⟨by decide +kernel, by decide +kernel⟩, by decide +kernel, by decide⟩
set_option maxRecDepth 20000 in
theorem cv_X10_368 : CV RX10 368 MX1_earliestLastDayOf 1 := ⟨cb_X1_earliestLastDayOf, qi_X1_earliestLastDayOf, qs_X1_earliestLastDayOf, qm_X10_368⟩
set_option maxRecDepth 20000 in
theorem cb_X1_longestOpenOf : CB MX1_longestOpenOf 2 := ⟨qn_X1, qc_X1_longestOpenOf, ⟨by decide +kernel, by decide +kernel⟩, by decide +kernel, by decide⟩
set_option maxRecDepth 20000 in
theorem cv_X10_371 : CV RX10 371 MX1_longestOpenOf 2 := ⟨cb_X1_longestOpenOf, qi_X1_longestOpenOf, qs_X1_longestOpenOf, qm_X10_371⟩
set_option maxRecDepth 20000 in
theorem cb_X2_makeRow : CB MX2_makeRow 2 := ⟨qn_X2, qc_X2_makeRow, ⟨by decide +kernel, by decide +kernel⟩, by decide +kernel, by decide⟩
set_option maxRecDepth 20000 in
theorem cv_X10_374 : CV RX10 374 MX2_makeRow 2 := ⟨cb_X2_makeRow, qi_X2_makeRow, qs_X2_makeRow, qm_X10_374⟩
set_option maxRecDepth 20000 in
theorem cb_X2_put : CB MX2_put 3 := ⟨qn_X2, qc_X2_put, ⟨by decide +kernel, by decide +kernel⟩, by decide +kernel, by decide⟩
set_option maxRecDepth 20000 in
theorem cv_X10_377 : CV RX10 377 MX2_put 3 := ⟨cb_X2_put, qi_X2_put, qs_X2_put, qm_X10_377⟩
set_option maxRecDepth 20000 in
theorem cb_X2_at : CB MX2_at 1 := ⟨qn_X2, qc_X2_at, ⟨by decide +kernel, by decide +kernel⟩, by decide +kernel, by decide⟩
set_option maxRecDepth 20000 in
theorem cv_X10_381 : CV RX10 381 MX2_at 1 := ⟨cb_X2_at, qi_X2_at, qs_X2_at, qm_X10_381⟩
set_option maxRecDepth 20000 in
theorem cb_X6_spell : CB MX6_spell 2 := ⟨qn_X6, qc_X6_spell, ⟨by decide +kernel, by decide +kernel⟩, by decide +kernel, by decide⟩
set_option maxRecDepth 20000 in
theorem cv_X10_385 : CV RX10 385 MX6_spell 2 := ⟨cb_X6_spell, qi_X6_spell, qs_X6_spell, qm_X10_385⟩
set_option maxRecDepth 20000 in
theorem fg_X10_389 : FG RX10 389 6 0 := ⟨RX6, TX6, 3, rfl, by decide, iw_X6, qf_X10_389⟩
set_option maxRecDepth 20000 in
theorem fg_X10_390 : FG RX10 390 6 1 := ⟨RX6, TX6, 3, rfl, by decide, iw_X6, qf_X10_390⟩
set_option maxRecDepth 20000 in
theorem fg_X10_393 : FG RX10 393 0 2 := ⟨RX0, TX0, 3, rfl, by decide, iw_X0, qf_X10_393⟩
set_option maxRecDepth 20000 in
theorem fg_X10_396 : FG RX10 396 2 2 := ⟨RX2, TX2, 3, rfl, by decide, iw_X2, qf_X10_396⟩
set_option maxRecDepth 20000 in
theorem nb_X0_9 : NB RX7 7 7 RX0 9 [.null, .null, .null, .null, .null, .null, vi 0] := ⟨TX7, tyX7, rfl, iw_X7, tyX7_ok, ql_X0_9, qb_X7, qn_X7, by intro k hk; match k, hk with | 0, _ => rfl | 1, _ => rfl | 2, _ => rfl | 3, _ => rfl | 4, _ => rfl | 5, _ => rfl | 6, _ => rfl | n + 7, h => exact absurd h (by omega)⟩
set_option maxRecDepth 20000 in
theorem fg_X0_11 : FG RX0 11 0 0 := ⟨RX0, TX0, 3, rfl, by decide, iw_X0, qf_X0_11⟩
set_option maxRecDepth 20000 in
theorem fp_X0_11 : FP0 RX0 11 0 0 true (.array (.object "QuotaLicences$State")) := ⟨RX0, TX0, 3, tyX0, rfl, by decide, iw_X0, qf_X0_11, tyX0_ok, nmX0, rfl, by decide +kernel, fun _ => rfl⟩
set_option maxRecDepth 20000 in
theorem fg_X0_17 : FG RX0 17 0 1 := ⟨RX0, TX0, 3, rfl, by decide, iw_X0, qf_X0_17⟩
set_option maxRecDepth 20000 in
theorem fp_X0_17 : FP0 RX0 17 0 1 false .int := ⟨RX0, TX0, 3, tyX0, rfl, by decide, iw_X0, qf_X0_17, tyX0_ok, nmX0, rfl, by decide +kernel, fun q => by cases q⟩
set_option maxRecDepth 20000 in
theorem ci_X0_21 : CIN RX0 21 MX7_init 0 := ⟨cb_X7_init, qi_X7_init, rfl, rfl, "QuotaLicences", List.mem_of_getElem? (i := 16) rfl⟩
set_option maxRecDepth 20000 in
theorem cv_X0_22 : CV RX0 22 MX7_copyFrom 1 := ⟨cb_X7_copyFrom, qi_X7_copyFrom, qs_X7_copyFrom, qm_X0_22⟩
set_option maxRecDepth 20000 in
theorem fg_X0_26 : FG RX0 26 0 2 := ⟨RX0, TX0, 3, rfl, by decide, iw_X0, qf_X0_26⟩
set_option maxRecDepth 20000 in
theorem fp_X0_26 : FP0 RX0 26 0 2 false .int := ⟨RX0, TX0, 3, tyX0, rfl, by decide, iw_X0, qf_X0_26, tyX0_ok, nmX0, rfl, by decide +kernel, fun q => by cases q⟩
set_option maxRecDepth 20000 in
theorem cs_X0_29 : CS RX0 29 MJ9_min_7cf53 2 := ⟨cb_J9_min_7cf53, qt_J9_min_7cf53, qm_X0_29⟩
set_option maxRecDepth 20000 in
theorem fg_X1_9 : FG RX1 9 1 0 := ⟨RX1, TX1, 11, rfl, by decide, iw_X1, qf_X1_9⟩
set_option maxRecDepth 20000 in
theorem fp_X1_9 : FP0 RX1 9 1 0 true (.array .int) := ⟨RX1, TX1, 11, tyX1, rfl, by decide, iw_X1, qf_X1_9, tyX1_ok, nmX1, rfl, by decide +kernel, fun _ => rfl⟩
set_option maxRecDepth 20000 in
theorem fg_X1_15 : FG RX1 15 1 1 := ⟨RX1, TX1, 11, rfl, by decide, iw_X1, qf_X1_15⟩
set_option maxRecDepth 20000 in
theorem fp_X1_15 : FP0 RX1 15 1 1 true (.array .int) := ⟨RX1, TX1, 11, tyX1, rfl, by decide, iw_X1, qf_X1_15, tyX1_ok, nmX1, rfl, by decide +kernel, fun _ => rfl⟩
set_option maxRecDepth 20000 in
theorem fg_X1_18 : FG RX1 18 1 2 := ⟨RX1, TX1, 11, rfl, by decide, iw_X1, qf_X1_18⟩
set_option maxRecDepth 20000 in
theorem fp_X1_18 : FP0 RX1 18 1 2 true (.array .int) := ⟨RX1, TX1, 11, tyX1, rfl, by decide, iw_X1, qf_X1_18, tyX1_ok, nmX1, rfl, by decide +kernel, fun _ => rfl⟩
set_option maxRecDepth 20000 in
theorem fg_X1_21 : FG RX1 21 1 3 := ⟨RX1, TX1, 11, rfl, by decide, iw_X1, qf_X1_21⟩
set_option maxRecDepth 20000 in
theorem fp_X1_21 : FP0 RX1 21 1 3 true (.array .int) := ⟨RX1, TX1, 11, tyX1, rfl, by decide, iw_X1, qf_X1_21, tyX1_ok, nmX1, rfl, by decide +kernel, fun _ => rfl⟩
set_option maxRecDepth 20000 in
theorem fg_X1_24 : FG RX1 24 1 4 := ⟨RX1, TX1, 11, rfl, by decide, iw_X1, qf_X1_24⟩
set_option maxRecDepth 20000 in
theorem fp_X1_24 : FP0 RX1 24 1 4 true (.array .int) := ⟨RX1, TX1, 11, tyX1, rfl, by decide, iw_X1, qf_X1_24, tyX1_ok, nmX1, rfl, by decide +kernel, fun _ => rfl⟩
set_option maxRecDepth 20000 in
theorem fg_X1_27 : FG RX1 27 1 5 := ⟨RX1, TX1, 11, rfl, by decide, iw_X1, qf_X1_27⟩
set_option maxRecDepth 20000 in
theorem fp_X1_27 : FP0 RX1 27 1 5 true (.array .int) := ⟨RX1, TX1, 11, tyX1, rfl, by decide, iw_X1, qf_X1_27, tyX1_ok, nmX1, rfl, by decide +kernel, fun _ => rfl⟩
set_option maxRecDepth 20000 in
theorem fg_X1_30 : FG RX1 30 1 6 := ⟨RX1, TX1, 11, rfl, by decide, iw_X1, qf_X1_30⟩
set_option maxRecDepth 20000 in
theorem fp_X1_30 : FP0 RX1 30 1 6 true (.array .int) := ⟨RX1, TX1, 11, tyX1, rfl, by decide, iw_X1, qf_X1_30, tyX1_ok, nmX1, rfl, by decide +kernel, fun _ => rfl⟩
set_option maxRecDepth 20000 in
theorem fg_X1_33 : FG RX1 33 1 7 := ⟨RX1, TX1, 11, rfl, by decide, iw_X1, qf_X1_33⟩
set_option maxRecDepth 20000 in
theorem fp_X1_33 : FP0 RX1 33 1 7 true (.array .int) := ⟨RX1, TX1, 11, tyX1, rfl, by decide, iw_X1, qf_X1_33, tyX1_ok, nmX1, rfl, by decide +kernel, fun _ => rfl⟩
set_option maxRecDepth 20000 in
theorem fg_X1_36 : FG RX1 36 1 8 := ⟨RX1, TX1, 11, rfl, by decide, iw_X1, qf_X1_36⟩
set_option maxRecDepth 20000 in
theorem fp_X1_36 : FP0 RX1 36 1 8 true (.array .int) := ⟨RX1, TX1, 11, tyX1, rfl, by decide, iw_X1, qf_X1_36, tyX1_ok, nmX1, rfl, by decide +kernel, fun _ => rfl⟩
set_option maxRecDepth 20000 in
theorem fg_X1_39 : FG RX1 39 1 9 := ⟨RX1, TX1, 11, rfl, by decide, iw_X1, qf_X1_39⟩
set_option maxRecDepth 20000 in
theorem fp_X1_39 : FP0 RX1 39 1 9 true (.array .int) := ⟨RX1, TX1, 11, tyX1, rfl, by decide, iw_X1, qf_X1_39, tyX1_ok, nmX1, rfl, by decide +kernel, fun _ => rfl⟩
set_option maxRecDepth 20000 in
theorem fg_X1_42 : FG RX1 42 1 10 := ⟨RX1, TX1, 11, rfl, by decide, iw_X1, qf_X1_42⟩
set_option maxRecDepth 20000 in
theorem fp_X1_42 : FP0 RX1 42 1 10 false .int := ⟨RX1, TX1, 11, tyX1, rfl, by decide, iw_X1, qf_X1_42, tyX1_ok, nmX1, rfl, by decide +kernel, fun q => by cases q⟩
set_option maxRecDepth 20000 in
theorem cv_X1_52 : CV RX1 52 MX1_isOpen 1 := ⟨cb_X1_isOpen, qi_X1_isOpen, qs_X1_isOpen, qm_X1_52⟩
set_option maxRecDepth 20000 in
theorem cv_X1_56 : CV RX1 56 MX1_isFor 3 := ⟨cb_X1_isFor, qi_X1_isFor, qs_X1_isFor, qm_X1_56⟩
set_option maxRecDepth 20000 in
theorem cv_X1_60 : CV RX1 60 MX1_remains 1 := ⟨cb_X1_remains, qi_X1_remains, qs_X1_remains, qm_X1_60⟩
set_option maxRecDepth 20000 in
theorem cb_X1_close : CB MX1_close 3 := ⟨qn_X1, qc_X1_close, ⟨by decide +kernel, by decide +kernel⟩, by decide +kernel, by decide⟩
set_option maxRecDepth 20000 in
theorem cv_X1_64 : CV RX1 64 MX1_close 3 := ⟨cb_X1_close, qi_X1_close, qs_X1_close, qm_X1_64⟩
set_option maxRecDepth 20000 in
theorem cb_X1_issue : CB MX1_issue 6 := ⟨qn_X1, qc_X1_issue, ⟨by decide +kernel, by decide +kernel⟩, by decide +kernel, by decide⟩
set_option maxRecDepth 20000 in
theorem cv_X1_68 : CV RX1 68 MX1_issue 6 := ⟨cb_X1_issue, qi_X1_issue, qs_X1_issue, qm_X1_68⟩
set_option maxRecDepth 20000 in
theorem cb_X1_closeIfUsedUp : CB MX1_closeIfUsedUp 2 := ⟨qn_X1, qc_X1_closeIfUsedUp, ⟨by decide +kernel, by decide +kernel⟩, by decide +kernel, by decide⟩
set_option maxRecDepth 20000 in
theorem cv_X1_72 : CV RX1 72 MX1_closeIfUsedUp 2 := ⟨cb_X1_closeIfUsedUp, qi_X1_closeIfUsedUp, qs_X1_closeIfUsedUp, qm_X1_72⟩
set_option maxRecDepth 20000 in
theorem cs_X1_78 : CS RX1 78 MJ9_max_7cf53 2 := ⟨cb_J9_max_7cf53, qt_J9_max_7cf53, qm_X1_78⟩
set_option maxRecDepth 20000 in
theorem fg_X2_9 : FG RX2 9 2 0 := ⟨RX2, TX2, 3, rfl, by decide, iw_X2, qf_X2_9⟩
set_option maxRecDepth 20000 in
theorem fp_X2_9 : FP0 RX2 9 2 0 true (.array .long) := ⟨RX2, TX2, 3, tyX2, rfl, by decide, iw_X2, qf_X2_9, tyX2_ok, nmX2, rfl, by decide +kernel, fun _ => rfl⟩
set_option maxRecDepth 20000 in
theorem fg_X2_15 : FG RX2 15 2 1 := ⟨RX2, TX2, 3, rfl, by decide, iw_X2, qf_X2_15⟩
set_option maxRecDepth 20000 in
theorem fp_X2_15 : FP0 RX2 15 2 1 false .int := ⟨RX2, TX2, 3, tyX2, rfl, by decide, iw_X2, qf_X2_15, tyX2_ok, nmX2, rfl, by decide +kernel, fun q => by cases q⟩
set_option maxRecDepth 20000 in
theorem fg_X2_19 : FG RX2 19 2 2 := ⟨RX2, TX2, 3, rfl, by decide, iw_X2, qf_X2_19⟩
set_option maxRecDepth 20000 in
theorem fp_X2_19 : FP0 RX2 19 2 2 false .int := ⟨RX2, TX2, 3, tyX2, rfl, by decide, iw_X2, qf_X2_19, tyX2_ok, nmX2, rfl, by decide +kernel, fun q => by cases q⟩
set_option maxRecDepth 20000 in
theorem cb_J7_fill_d0a16 : CB MJ7_fill_d0a16 2 := ⟨qn_J7, qc_J7_fill_d0a16, ⟨by decide +kernel, by decide +kernel⟩, by decide +kernel, by decide⟩
set_option maxRecDepth 20000 in
theorem cs_X2_22 : CS RX2 22 MJ7_fill_d0a16 2 := ⟨cb_J7_fill_d0a16, qt_J7_fill_d0a16, qm_X2_22⟩
set_option maxRecDepth 20000 in
theorem fg_X3_9 : FG RX3 9 3 0 := ⟨RX3, TX3, 7, rfl, by decide, iw_X3, qf_X3_9⟩
set_option maxRecDepth 20000 in
theorem fp_X3_9 : FP0 RX3 9 3 0 true (.array .int) := ⟨RX3, TX3, 7, tyX3, rfl, by decide, iw_X3, qf_X3_9, tyX3_ok, nmX3, rfl, by decide +kernel, fun _ => rfl⟩
set_option maxRecDepth 20000 in
theorem fg_X3_15 : FG RX3 15 3 1 := ⟨RX3, TX3, 7, rfl, by decide, iw_X3, qf_X3_15⟩
set_option maxRecDepth 20000 in
theorem fp_X3_15 : FP0 RX3 15 3 1 true (.array .int) := ⟨RX3, TX3, 7, tyX3, rfl, by decide, iw_X3, qf_X3_15, tyX3_ok, nmX3, rfl, by decide +kernel, fun _ => rfl⟩
set_option maxRecDepth 20000 in
theorem fg_X3_18 : FG RX3 18 3 2 := ⟨RX3, TX3, 7, rfl, by decide, iw_X3, qf_X3_18⟩
set_option maxRecDepth 20000 in
theorem fp_X3_18 : FP0 RX3 18 3 2 true (.array .int) := ⟨RX3, TX3, 7, tyX3, rfl, by decide, iw_X3, qf_X3_18, tyX3_ok, nmX3, rfl, by decide +kernel, fun _ => rfl⟩
set_option maxRecDepth 20000 in
theorem fg_X3_21 : FG RX3 21 3 3 := ⟨RX3, TX3, 7, rfl, by decide, iw_X3, qf_X3_21⟩
set_option maxRecDepth 20000 in
theorem fp_X3_21 : FP0 RX3 21 3 3 true (.array .int) := ⟨RX3, TX3, 7, tyX3, rfl, by decide, iw_X3, qf_X3_21, tyX3_ok, nmX3, rfl, by decide +kernel, fun _ => rfl⟩
set_option maxRecDepth 20000 in
theorem fg_X3_24 : FG RX3 24 3 4 := ⟨RX3, TX3, 7, rfl, by decide, iw_X3, qf_X3_24⟩
set_option maxRecDepth 20000 in
theorem fp_X3_24 : FP0 RX3 24 3 4 true (.array .int) := ⟨RX3, TX3, 7, tyX3, rfl, by decide, iw_X3, qf_X3_24, tyX3_ok, nmX3, rfl, by decide +kernel, fun _ => rfl⟩
set_option maxRecDepth 20000 in
theorem fg_X3_27 : FG RX3 27 3 5 := ⟨RX3, TX3, 7, rfl, by decide, iw_X3, qf_X3_27⟩
set_option maxRecDepth 20000 in
theorem fp_X3_27 : FP0 RX3 27 3 5 true (.array .int) := ⟨RX3, TX3, 7, tyX3, rfl, by decide, iw_X3, qf_X3_27, tyX3_ok, nmX3, rfl, by decide +kernel, fun _ => rfl⟩
set_option maxRecDepth 20000 in
theorem fg_X3_36 : FG RX3 36 3 6 := ⟨RX3, TX3, 7, rfl, by decide, iw_X3, qf_X3_36⟩
set_option maxRecDepth 20000 in
theorem fp_X3_36 : FP0 RX3 36 3 6 false .int := ⟨RX3, TX3, 7, tyX3, rfl, by decide, iw_X3, qf_X3_36, tyX3_ok, nmX3, rfl, by decide +kernel, fun q => by cases q⟩
set_option maxRecDepth 20000 in
theorem cs_X3_40 : CSN RX3 40 MX10_logPlace 3 := ⟨cb_X10_logPlace, qt_X10_logPlace, "QuotaLicences", List.mem_of_getElem? (i := 17) rfl⟩
set_option maxRecDepth 20000 in
theorem cv_X3_47 : CV RX3 47 MX3_figure 2 := ⟨cb_X3_figure, qi_X3_figure, qs_X3_figure, qm_X3_47⟩
set_option maxRecDepth 20000 in
theorem cs_X3_51 : CS RX3 51 MJ9_min_7cf53 2 := ⟨cb_J9_min_7cf53, qt_J9_min_7cf53, qm_X3_51⟩
set_option maxRecDepth 20000 in
theorem nb_X4_9 : NB RX8 8 2 RX4 9 [.null, vi 0] := ⟨TX8, tyX8, rfl, iw_X8, tyX8_ok, ql_X4_9, qb_X8, qn_X8, by intro k hk; match k, hk with | 0, _ => rfl | 1, _ => rfl | n + 2, h => exact absurd h (by omega)⟩
set_option maxRecDepth 20000 in
theorem cb_X8_init : CB MX8_init 0 := ⟨qn_X8, qc_X8_init, ⟨by decide +kernel, by decide +kernel⟩, by decide +kernel, by decide⟩
set_option maxRecDepth 20000 in
theorem ci_X4_11 : CIN RX4 11 MX8_init 0 := ⟨cb_X8_init, qi_X8_init, rfl, rfl, "QuotaLicences", List.mem_of_getElem? (i := 1) rfl⟩
set_option maxRecDepth 20000 in
theorem fg_X4_12 : FG RX4 12 4 0 := ⟨RX4, TX4, 4, rfl, by decide, iw_X4, qf_X4_12⟩
set_option maxRecDepth 20000 in
theorem fp_X4_12 : FP0 RX4 12 4 0 true (.object "QuotaLicences$Tape") := ⟨RX4, TX4, 4, tyX4, rfl, by decide, iw_X4, qf_X4_12, tyX4_ok, nmX4, rfl, by decide +kernel, fun _ => rfl⟩
set_option maxRecDepth 20000 in
theorem nb_X4_18 : NB RX5 5 5 RX4 18 [.null, .null, .null, vi 0, vi 0] := ⟨TX5, tyX5, rfl, iw_X5, tyX5_ok, ql_X4_18, qb_X5, qn_X5, by intro k hk; match k, hk with | 0, _ => rfl | 1, _ => rfl | 2, _ => rfl | 3, _ => rfl | 4, _ => rfl | n + 5, h => exact absurd h (by omega)⟩
set_option maxRecDepth 20000 in
theorem cb_X5_init : CB MX5_init 0 := ⟨qn_X5, qc_X5_init, ⟨by decide +kernel, by decide +kernel⟩, by decide +kernel, by decide⟩
set_option maxRecDepth 20000 in
theorem ci_X4_20 : CIN RX4 20 MX5_init 0 := ⟨cb_X5_init, qi_X5_init, rfl, rfl, "QuotaLicences", List.mem_of_getElem? (i := 2) rfl⟩
set_option maxRecDepth 20000 in
theorem fg_X4_21 : FG RX4 21 4 1 := ⟨RX4, TX4, 4, rfl, by decide, iw_X4, qf_X4_21⟩
set_option maxRecDepth 20000 in
theorem fp_X4_21 : FP0 RX4 21 4 1 true (.object "QuotaLicences$Scheme") := ⟨RX4, TX4, 4, tyX4, rfl, by decide, iw_X4, qf_X4_21, tyX4_ok, nmX4, rfl, by decide +kernel, fun _ => rfl⟩
set_option maxRecDepth 20000 in
theorem fg_X4_25 : FG RX4 25 4 2 := ⟨RX4, TX4, 4, rfl, by decide, iw_X4, qf_X4_25⟩
set_option maxRecDepth 20000 in
theorem fp_X4_25 : FP0 RX4 25 4 2 false .int := ⟨RX4, TX4, 4, tyX4, rfl, by decide, iw_X4, qf_X4_25, tyX4_ok, nmX4, rfl, by decide +kernel, fun q => by cases q⟩
set_option maxRecDepth 20000 in
theorem fg_X4_29 : FG RX4 29 4 3 := ⟨RX4, TX4, 4, rfl, by decide, iw_X4, qf_X4_29⟩
set_option maxRecDepth 20000 in
theorem fp_X4_29 : FP0 RX4 29 4 3 false .int := ⟨RX4, TX4, 4, tyX4, rfl, by decide, iw_X4, qf_X4_29, tyX4_ok, nmX4, rfl, by decide +kernel, fun q => by cases q⟩
set_option maxRecDepth 20000 in
theorem cb_X5_clear : CB MX5_clear 0 := ⟨qn_X5, qc_X5_clear, ⟨by decide +kernel, by decide +kernel⟩, by decide +kernel, by decide⟩
set_option maxRecDepth 20000 in
theorem cv_X4_32 : CV RX4 32 MX5_clear 0 := ⟨cb_X5_clear, qi_X5_clear, qs_X5_clear, qm_X4_32⟩
set_option maxRecDepth 20000 in
theorem cb_X4_readTerms : CB MX4_readTerms 0 := ⟨qn_X4, qc_X4_readTerms, ⟨by decide +kernel, by decide +kernel⟩, by decide +kernel, by decide⟩
set_option maxRecDepth 20000 in
theorem cv_X4_35 : CV RX4 35 MX4_readTerms 0 := ⟨cb_X4_readTerms, qi_X4_readTerms, qs_X4_readTerms, qm_X4_35⟩
set_option maxRecDepth 20000 in
theorem cb_X4_isAtEnd : CB MX4_isAtEnd 0 := ⟨qn_X4, qc_X4_isAtEnd, ⟨by decide +kernel, by decide +kernel⟩, by decide +kernel, by decide⟩
set_option maxRecDepth 20000 in
theorem cv_X4_38 : CV RX4 38 MX4_isAtEnd 0 := ⟨cb_X4_isAtEnd, qi_X4_isAtEnd, qs_X4_isAtEnd, qm_X4_38⟩
set_option maxRecDepth 20000 in
theorem cb_X4_readSeparator : CB MX4_readSeparator 0 := ⟨qn_X4, qc_X4_readSeparator, ⟨by decide +kernel, by decide +kernel⟩, by decide +kernel, by decide⟩
set_option maxRecDepth 20000 in
theorem cv_X4_42 : CV RX4 42 MX4_readSeparator 0 := ⟨cb_X4_readSeparator, qi_X4_readSeparator, qs_X4_readSeparator, qm_X4_42⟩
set_option maxRecDepth 20000 in
theorem cb_X4_readPiece : CB MX4_readPiece 0 := ⟨qn_X4, qc_X4_readPiece, ⟨by decide +kernel, by decide +kernel⟩, by decide +kernel, by decide⟩
set_option maxRecDepth 20000 in
theorem cv_X4_45 : CV RX4 45 MX4_readPiece 0 := ⟨cb_X4_readPiece, qi_X4_readPiece, qs_X4_readPiece, qm_X4_45⟩
set_option maxRecDepth 20000 in
theorem fg_X4_48 : FG RX4 48 5 3 := ⟨RX5, TX5, 5, rfl, by decide, iw_X5, qf_X4_48⟩
set_option maxRecDepth 20000 in
theorem fp_X4_48 : FP0 RX4 48 5 3 false .int := ⟨RX5, TX5, 5, tyX5, rfl, by decide, iw_X5, qf_X4_48, tyX5_ok, nmX5, rfl, by decide +kernel, fun q => by cases q⟩
set_option maxRecDepth 20000 in
theorem fg_X4_51 : FG RX4 51 8 1 := ⟨RX8, TX8, 2, rfl, by decide, iw_X8, qf_X4_51⟩
set_option maxRecDepth 20000 in
theorem cb_X4_fail : CB MX4_fail 2 := ⟨qn_X4, qc_X4_fail, ⟨by decide +kernel, by decide +kernel⟩, by decide +kernel, by decide⟩
set_option maxRecDepth 20000 in
theorem cv_X4_54 : CV RX4 54 MX4_fail 2 := ⟨cb_X4_fail, qi_X4_fail, qs_X4_fail, qm_X4_54⟩
set_option maxRecDepth 20000 in
theorem cb_X4_skipBlanks : CB MX4_skipBlanks 0 := ⟨qn_X4, qc_X4_skipBlanks, ⟨by decide +kernel, by decide +kernel⟩, by decide +kernel, by decide⟩
set_option maxRecDepth 20000 in
theorem cv_X4_58 : CV RX4 58 MX4_skipBlanks 0 := ⟨cb_X4_skipBlanks, qi_X4_skipBlanks, qs_X4_skipBlanks, qm_X4_58⟩
set_option maxRecDepth 20000 in
theorem cb_X4_skipLetters : CB MX4_skipLetters 0 := ⟨qn_X4, qc_X4_skipLetters, ⟨by decide +kernel, by decide +kernel⟩, by decide +kernel, by decide⟩
set_option maxRecDepth 20000 in
theorem cv_X4_61 : CV RX4 61 MX4_skipLetters 0 := ⟨cb_X4_skipLetters, qi_X4_skipLetters, qs_X4_skipLetters, qm_X4_61⟩
set_option maxRecDepth 20000 in
theorem cb_X4_isWord : CB MX4_isWord 2 := ⟨qn_X4, qc_X4_isWord, ⟨by decide +kernel, by decide +kernel⟩, by decide +kernel, by decide⟩
set_option maxRecDepth 20000 in
theorem cv_X4_65 : CV RX4 65 MX4_isWord 2 := ⟨cb_X4_isWord, qi_X4_isWord, qs_X4_isWord, qm_X4_65⟩
set_option maxRecDepth 20000 in
theorem fg_X4_69 : FG RX4 69 5 0 := ⟨RX5, TX5, 5, rfl, by decide, iw_X5, qf_X4_69⟩
set_option maxRecDepth 20000 in
theorem cb_X4_readNumber : CB MX4_readNumber 2 := ⟨qn_X4, qc_X4_readNumber, ⟨by decide +kernel, by decide +kernel⟩, by decide +kernel, by decide⟩
set_option maxRecDepth 20000 in
theorem cv_X4_79 : CV RX4 79 MX4_readNumber 2 := ⟨cb_X4_readNumber, qi_X4_readNumber, qs_X4_readNumber, qm_X4_79⟩
set_option maxRecDepth 20000 in
theorem fg_X4_83 : FG RX4 83 8 0 := ⟨RX8, TX8, 2, rfl, by decide, iw_X8, qf_X4_83⟩
set_option maxRecDepth 20000 in
theorem cb_X4_readOrigin : CB MX4_readOrigin 1 := ⟨qn_X4, qc_X4_readOrigin, ⟨by decide +kernel, by decide +kernel⟩, by decide +kernel, by decide⟩
set_option maxRecDepth 20000 in
theorem cv_X4_89 : CV RX4 89 MX4_readOrigin 1 := ⟨cb_X4_readOrigin, qi_X4_readOrigin, qs_X4_readOrigin, qm_X4_89⟩
set_option maxRecDepth 20000 in
theorem cb_X4_readImporter : CB MX4_readImporter 1 := ⟨qn_X4, qc_X4_readImporter, ⟨by decide +kernel, by decide +kernel⟩, by decide +kernel, by decide⟩
set_option maxRecDepth 20000 in
theorem cv_X4_95 : CV RX4 95 MX4_readImporter 1 := ⟨cb_X4_readImporter, qi_X4_readImporter, qs_X4_readImporter, qm_X4_95⟩
set_option maxRecDepth 20000 in
theorem cb_X4_readPast : CB MX4_readPast 0 := ⟨qn_X4, qc_X4_readPast, ⟨by decide +kernel, by decide +kernel⟩, by decide +kernel, by decide⟩
set_option maxRecDepth 20000 in
theorem cv_X4_100 : CV RX4 100 MX4_readPast 0 := ⟨cb_X4_readPast, qi_X4_readPast, qs_X4_readPast, qm_X4_100⟩
set_option maxRecDepth 20000 in
theorem fg_X4_103 : FG RX4 103 5 1 := ⟨RX5, TX5, 5, rfl, by decide, iw_X5, qf_X4_103⟩
set_option maxRecDepth 20000 in
theorem fg_X4_107 : FG RX4 107 5 4 := ⟨RX5, TX5, 5, rfl, by decide, iw_X5, qf_X4_107⟩
set_option maxRecDepth 20000 in
theorem fp_X4_107 : FP0 RX4 107 5 4 false .int := ⟨RX5, TX5, 5, tyX5, rfl, by decide, iw_X5, qf_X4_107, tyX5_ok, nmX5, rfl, by decide +kernel, fun q => by cases q⟩
set_option maxRecDepth 20000 in
theorem cs_X4_110 : CSN RX4 110 MX10_pairOf 2 := ⟨cb_X10_pairOf, qt_X10_pairOf, "QuotaLicences", List.mem_of_getElem? (i := 13) rfl⟩
set_option maxRecDepth 20000 in
theorem cb_X5_putYear : CB MX5_putYear 3 := ⟨qn_X5, qc_X5_putYear, ⟨by decide +kernel, by decide +kernel⟩, by decide +kernel, by decide⟩
set_option maxRecDepth 20000 in
theorem cv_X4_113 : CV RX4 113 MX5_putYear 3 := ⟨cb_X5_putYear, qi_X5_putYear, qs_X5_putYear, qm_X4_113⟩
set_option maxRecDepth 20000 in
theorem cs_X4_118 : CS RX4 118 MJ9_min_7cf53 2 := ⟨cb_J9_min_7cf53, qt_J9_min_7cf53, qm_X4_118⟩
set_option maxRecDepth 20000 in
theorem cb_J0_length_8abf5 : CB MJ0_length_8abf5 0 := ⟨qn_J0, qc_J0_length_8abf5, ⟨by decide +kernel, by decide +kernel⟩, by decide +kernel, by decide⟩
set_option maxRecDepth 20000 in
theorem cv_X4_123 : CV RX4 123 MJ0_length_8abf5 0 := ⟨cb_J0_length_8abf5, qi_J0_length_8abf5, qs_J0_length_8abf5, qm_X4_123⟩
set_option maxRecDepth 20000 in
theorem cb_J0_charAt_5068e : CB MJ0_charAt_5068e 1 := ⟨qn_J0, qc_J0_charAt_5068e, ⟨by decide +kernel, by decide +kernel⟩, by decide +kernel, by decide⟩
set_option maxRecDepth 20000 in
theorem cv_X4_128 : CV RX4 128 MJ0_charAt_5068e 1 := ⟨cb_J0_charAt_5068e, qi_J0_charAt_5068e, qs_J0_charAt_5068e, qm_X4_128⟩
set_option maxRecDepth 20000 in
theorem fg_X5_9 : FG RX5 9 5 0 := ⟨RX5, TX5, 5, rfl, by decide, iw_X5, qf_X5_9⟩
set_option maxRecDepth 20000 in
theorem fp_X5_9 : FP0 RX5 9 5 0 true (.array .int) := ⟨RX5, TX5, 5, tyX5, rfl, by decide, iw_X5, qf_X5_9, tyX5_ok, nmX5, rfl, by decide +kernel, fun _ => rfl⟩
set_option maxRecDepth 20000 in
theorem fg_X5_15 : FG RX5 15 5 1 := ⟨RX5, TX5, 5, rfl, by decide, iw_X5, qf_X5_15⟩
set_option maxRecDepth 20000 in
theorem fp_X5_15 : FP0 RX5 15 5 1 true (.array .int) := ⟨RX5, TX5, 5, tyX5, rfl, by decide, iw_X5, qf_X5_15, tyX5_ok, nmX5, rfl, by decide +kernel, fun _ => rfl⟩
set_option maxRecDepth 20000 in
theorem fg_X5_18 : FG RX5 18 5 2 := ⟨RX5, TX5, 5, rfl, by decide, iw_X5, qf_X5_18⟩
set_option maxRecDepth 20000 in
theorem fp_X5_18 : FP0 RX5 18 5 2 true (.array .int) := ⟨RX5, TX5, 5, tyX5, rfl, by decide, iw_X5, qf_X5_18, tyX5_ok, nmX5, rfl, by decide +kernel, fun _ => rfl⟩
set_option maxRecDepth 20000 in
theorem cb_J7_fill_53178 : CB MJ7_fill_53178 2 := ⟨qn_J7, qc_J7_fill_53178, ⟨by decide +kernel, by decide +kernel⟩, by decide +kernel, by decide⟩
set_option maxRecDepth 20000 in
theorem cs_X5_21 : CS RX5 21 MJ7_fill_53178 2 := ⟨cb_J7_fill_53178, qt_J7_fill_53178, qm_X5_21⟩
set_option maxRecDepth 20000 in
theorem fg_X5_27 : FG RX5 27 5 3 := ⟨RX5, TX5, 5, rfl, by decide, iw_X5, qf_X5_27⟩
set_option maxRecDepth 20000 in
theorem fp_X5_27 : FP0 RX5 27 5 3 false .int := ⟨RX5, TX5, 5, tyX5, rfl, by decide, iw_X5, qf_X5_27, tyX5_ok, nmX5, rfl, by decide +kernel, fun q => by cases q⟩
set_option maxRecDepth 20000 in
theorem fg_X5_31 : FG RX5 31 5 4 := ⟨RX5, TX5, 5, rfl, by decide, iw_X5, qf_X5_31⟩
set_option maxRecDepth 20000 in
theorem fp_X5_31 : FP0 RX5 31 5 4 false .int := ⟨RX5, TX5, 5, tyX5, rfl, by decide, iw_X5, qf_X5_31, tyX5_ok, nmX5, rfl, by decide +kernel, fun q => by cases q⟩
set_option maxRecDepth 20000 in
theorem cv_X5_40 : CV RX5 40 MX5_inYear 2 := ⟨cb_X5_inYear, qi_X5_inYear, qs_X5_inYear, qm_X5_40⟩
set_option maxRecDepth 20000 in
theorem cv_X5_44 : CV RX5 44 MX5_putYear 3 := ⟨cb_X5_putYear, qi_X5_putYear, qs_X5_putYear, qm_X5_44⟩
set_option maxRecDepth 20000 in
theorem fg_X6_9 : FG RX6 9 6 0 := ⟨RX6, TX6, 3, rfl, by decide, iw_X6, qf_X6_9⟩
set_option maxRecDepth 20000 in
theorem fp_X6_9 : FP0 RX6 9 6 0 false .int := ⟨RX6, TX6, 3, tyX6, rfl, by decide, iw_X6, qf_X6_9, tyX6_ok, nmX6, rfl, by decide +kernel, fun q => by cases q⟩
set_option maxRecDepth 20000 in
theorem fg_X6_15 : FG RX6 15 6 1 := ⟨RX6, TX6, 3, rfl, by decide, iw_X6, qf_X6_15⟩
set_option maxRecDepth 20000 in
theorem fp_X6_15 : FP0 RX6 15 6 1 false .int := ⟨RX6, TX6, 3, tyX6, rfl, by decide, iw_X6, qf_X6_15, tyX6_ok, nmX6, rfl, by decide +kernel, fun q => by cases q⟩
set_option maxRecDepth 20000 in
theorem fg_X6_18 : FG RX6 18 6 2 := ⟨RX6, TX6, 3, rfl, by decide, iw_X6, qf_X6_18⟩
set_option maxRecDepth 20000 in
theorem fp_X6_18 : FP0 RX6 18 6 2 false .int := ⟨RX6, TX6, 3, tyX6, rfl, by decide, iw_X6, qf_X6_18, tyX6_ok, nmX6, rfl, by decide +kernel, fun q => by cases q⟩
set_option maxRecDepth 20000 in
theorem fg_X6_21 : FG RX6 21 5 3 := ⟨RX5, TX5, 5, rfl, by decide, iw_X5, qf_X6_21⟩
set_option maxRecDepth 20000 in
theorem cb_X6_putWord : CB MX6_putWord 1 := ⟨qn_X6, qc_X6_putWord, ⟨by decide +kernel, by decide +kernel⟩, by decide +kernel, by decide⟩
set_option maxRecDepth 20000 in
theorem cv_X6_28 : CV RX6 28 MX6_putWord 1 := ⟨cb_X6_putWord, qi_X6_putWord, qs_X6_putWord, qm_X6_28⟩
set_option maxRecDepth 20000 in
theorem fg_X6_32 : FG RX6 32 5 0 := ⟨RX5, TX5, 5, rfl, by decide, iw_X5, qf_X6_32⟩
set_option maxRecDepth 20000 in
theorem cb_X6_putNumber : CB MX6_putNumber 1 := ⟨qn_X6, qc_X6_putNumber, ⟨by decide +kernel, by decide +kernel⟩, by decide +kernel, by decide⟩
set_option maxRecDepth 20000 in
theorem cv_X6_36 : CV RX6 36 MX6_putNumber 1 := ⟨cb_X6_putNumber, qi_X6_putNumber, qs_X6_putNumber, qm_X6_36⟩
set_option maxRecDepth 20000 in
theorem fg_X6_42 : FG RX6 42 5 1 := ⟨RX5, TX5, 5, rfl, by decide, iw_X5, qf_X6_42⟩
set_option maxRecDepth 20000 in
theorem fg_X6_45 : FG RX6 45 5 4 := ⟨RX5, TX5, 5, rfl, by decide, iw_X5, qf_X6_45⟩
set_option maxRecDepth 20000 in
theorem cb_X6_putPast : CB MX6_putPast 3 := ⟨qn_X6, qc_X6_putPast, ⟨by decide +kernel, by decide +kernel⟩, by decide +kernel, by decide⟩
set_option maxRecDepth 20000 in
theorem cv_X6_50 : CV RX6 50 MX6_putPast 3 := ⟨cb_X6_putPast, qi_X6_putPast, qs_X6_putPast, qm_X6_50⟩
set_option maxRecDepth 20000 in
theorem cs_X6_54 : CSN RX6 54 MX10_pairOf 2 := ⟨cb_X10_pairOf, qt_X10_pairOf, "QuotaLicences", List.mem_of_getElem? (i := 19) rfl⟩
set_option maxRecDepth 20000 in
theorem cb_X5_yearsWithSome : CB MX5_yearsWithSome 1 := ⟨qn_X5, qc_X5_yearsWithSome, ⟨by decide +kernel, by decide +kernel⟩, by decide +kernel, by decide⟩
set_option maxRecDepth 20000 in
theorem cv_X6_58 : CV RX6 58 MX5_yearsWithSome 1 := ⟨cb_X5_yearsWithSome, qi_X5_yearsWithSome, qs_X5_yearsWithSome, qm_X6_58⟩
set_option maxRecDepth 20000 in
theorem cv_X6_64 : CV RX6 64 MX5_inYear 2 := ⟨cb_X5_inYear, qi_X5_inYear, qs_X5_inYear, qm_X6_64⟩
set_option maxRecDepth 20000 in
theorem cv_X6_67 : CV RX6 67 MJ0_length_8abf5 0 := ⟨cb_J0_length_8abf5, qi_J0_length_8abf5, qs_J0_length_8abf5, qm_X6_67⟩
set_option maxRecDepth 20000 in
theorem cv_X6_72 : CV RX6 72 MJ0_charAt_5068e 1 := ⟨cb_J0_charAt_5068e, qi_J0_charAt_5068e, qs_J0_charAt_5068e, qm_X6_72⟩
set_option maxRecDepth 20000 in
theorem cb_X6_putByte : CB MX6_putByte 1 := ⟨qn_X6, qc_X6_putByte, ⟨by decide +kernel, by decide +kernel⟩, by decide +kernel, by decide⟩
set_option maxRecDepth 20000 in
theorem cv_X6_76 : CV RX6 76 MX6_putByte 1 := ⟨cb_X6_putByte, qi_X6_putByte, qs_X6_putByte, qm_X6_76⟩
set_option maxRecDepth 20000 in
theorem nb_X7_9 : NB RX5 5 5 RX7 9 [.null, .null, .null, vi 0, vi 0] := ⟨TX5, tyX5, rfl, iw_X5, tyX5_ok, ql_X7_9, qb_X5, qn_X5, by intro k hk; match k, hk with | 0, _ => rfl | 1, _ => rfl | 2, _ => rfl | 3, _ => rfl | 4, _ => rfl | n + 5, h => exact absurd h (by omega)⟩
set_option maxRecDepth 20000 in
theorem ci_X7_11 : CIN RX7 11 MX5_init 0 := ⟨cb_X5_init, qi_X5_init, rfl, rfl, "QuotaLicences", List.mem_of_getElem? (i := 5) rfl⟩
set_option maxRecDepth 20000 in
theorem fg_X7_12 : FG RX7 12 7 0 := ⟨RX7, TX7, 7, rfl, by decide, iw_X7, qf_X7_12⟩
set_option maxRecDepth 20000 in
theorem fp_X7_12 : FP0 RX7 12 7 0 true (.object "QuotaLicences$Scheme") := ⟨RX7, TX7, 7, tyX7, rfl, by decide, iw_X7, qf_X7_12, tyX7_ok, nmX7, rfl, by decide +kernel, fun _ => rfl⟩
set_option maxRecDepth 20000 in
theorem nb_X7_18 : NB RX1 1 11 RX7 18 [.null, .null, .null, .null, .null, .null, .null, .null, .null, .null, vi 0] := ⟨TX1, tyX1, rfl, iw_X1, tyX1_ok, ql_X7_18, qb_X1, qn_X1, by intro k hk; match k, hk with | 0, _ => rfl | 1, _ => rfl | 2, _ => rfl | 3, _ => rfl | 4, _ => rfl | 5, _ => rfl | 6, _ => rfl | 7, _ => rfl | 8, _ => rfl | 9, _ => rfl | 10, _ => rfl | n + 11, h => exact absurd h (by omega)⟩
set_option maxRecDepth 20000 in
theorem cb_X1_init : CB MX1_init 0 := ⟨qn_X1, qc_X1_init, ⟨by decide +kernel, by decide +kernel⟩, by decide +kernel, by decide⟩
set_option maxRecDepth 20000 in
theorem ci_X7_20 : CIN RX7 20 MX1_init 0 := ⟨cb_X1_init, qi_X1_init, rfl, rfl, "QuotaLicences", List.mem_of_getElem? (i := 6) rfl⟩
set_option maxRecDepth 20000 in
theorem fg_X7_21 : FG RX7 21 7 1 := ⟨RX7, TX7, 7, rfl, by decide, iw_X7, qf_X7_21⟩
set_option maxRecDepth 20000 in
theorem fp_X7_21 : FP0 RX7 21 7 1 true (.object "QuotaLicences$Book") := ⟨RX7, TX7, 7, tyX7, rfl, by decide, iw_X7, qf_X7_21, tyX7_ok, nmX7, rfl, by decide +kernel, fun _ => rfl⟩
set_option maxRecDepth 20000 in
theorem nb_X7_25 : NB RX3 3 7 RX7 25 [.null, .null, .null, .null, .null, .null, vi 0] := ⟨TX3, tyX3, rfl, iw_X3, tyX3_ok, ql_X7_25, qb_X3, qn_X3, by intro k hk; match k, hk with | 0, _ => rfl | 1, _ => rfl | 2, _ => rfl | 3, _ => rfl | 4, _ => rfl | 5, _ => rfl | 6, _ => rfl | n + 7, h => exact absurd h (by omega)⟩
set_option maxRecDepth 20000 in
theorem cb_X3_init : CB MX3_init 0 := ⟨qn_X3, qc_X3_init, ⟨by decide +kernel, by decide +kernel⟩, by decide +kernel, by decide⟩
set_option maxRecDepth 20000 in
theorem ci_X7_27 : CIN RX7 27 MX3_init 0 := ⟨cb_X3_init, qi_X3_init, rfl, rfl, "QuotaLicences", List.mem_of_getElem? (i := 7) rfl⟩
set_option maxRecDepth 20000 in
theorem fg_X7_28 : FG RX7 28 7 2 := ⟨RX7, TX7, 7, rfl, by decide, iw_X7, qf_X7_28⟩
set_option maxRecDepth 20000 in
theorem fp_X7_28 : FP0 RX7 28 7 2 true (.object "QuotaLicences$Period") := ⟨RX7, TX7, 7, tyX7, rfl, by decide, iw_X7, qf_X7_28, tyX7_ok, nmX7, rfl, by decide +kernel, fun _ => rfl⟩
set_option maxRecDepth 20000 in
theorem nb_X7_32 : NB RX9 9 3 RX7 32 [.null, .null, .null] := ⟨TX9, tyX9, rfl, iw_X9, tyX9_ok, ql_X7_32, qb_X9, qn_X9, by intro k hk; match k, hk with | 0, _ => rfl | 1, _ => rfl | 2, _ => rfl | n + 3, h => exact absurd h (by omega)⟩
set_option maxRecDepth 20000 in
theorem cb_X9_init : CB MX9_init 0 := ⟨qn_X9, qc_X9_init, ⟨by decide +kernel, by decide +kernel⟩, by decide +kernel, by decide⟩
set_option maxRecDepth 20000 in
theorem ci_X7_34 : CIN RX7 34 MX9_init 0 := ⟨cb_X9_init, qi_X9_init, rfl, rfl, "QuotaLicences", List.mem_of_getElem? (i := 8) rfl⟩
set_option maxRecDepth 20000 in
theorem fg_X7_35 : FG RX7 35 7 3 := ⟨RX7, TX7, 7, rfl, by decide, iw_X7, qf_X7_35⟩
set_option maxRecDepth 20000 in
theorem fp_X7_35 : FP0 RX7 35 7 3 true (.object "QuotaLicences$Year") := ⟨RX7, TX7, 7, tyX7, rfl, by decide, iw_X7, qf_X7_35, tyX7_ok, nmX7, rfl, by decide +kernel, fun _ => rfl⟩
set_option maxRecDepth 20000 in
theorem fg_X7_39 : FG RX7 39 7 4 := ⟨RX7, TX7, 7, rfl, by decide, iw_X7, qf_X7_39⟩
set_option maxRecDepth 20000 in
theorem fp_X7_39 : FP0 RX7 39 7 4 true (.array .double) := ⟨RX7, TX7, 7, tyX7, rfl, by decide, iw_X7, qf_X7_39, tyX7_ok, nmX7, rfl, by decide +kernel, fun _ => rfl⟩
set_option maxRecDepth 20000 in
theorem fg_X7_43 : FG RX7 43 7 5 := ⟨RX7, TX7, 7, rfl, by decide, iw_X7, qf_X7_43⟩
set_option maxRecDepth 20000 in
theorem fp_X7_43 : FP0 RX7 43 7 5 true (.array .int) := ⟨RX7, TX7, 7, tyX7, rfl, by decide, iw_X7, qf_X7_43, tyX7_ok, nmX7, rfl, by decide +kernel, fun _ => rfl⟩
set_option maxRecDepth 20000 in
theorem cb_X5_copyFrom : CB MX5_copyFrom 1 := ⟨qn_X5, qc_X5_copyFrom, ⟨by decide +kernel, by decide +kernel⟩, by decide +kernel, by decide⟩
set_option maxRecDepth 20000 in
theorem cv_X7_47 : CV RX7 47 MX5_copyFrom 1 := ⟨cb_X5_copyFrom, qi_X5_copyFrom, qs_X5_copyFrom, qm_X7_47⟩
set_option maxRecDepth 20000 in
theorem cb_X1_copyFrom : CB MX1_copyFrom 1 := ⟨qn_X1, qc_X1_copyFrom, ⟨by decide +kernel, by decide +kernel⟩, by decide +kernel, by decide⟩
set_option maxRecDepth 20000 in
theorem cv_X7_51 : CV RX7 51 MX1_copyFrom 1 := ⟨cb_X1_copyFrom, qi_X1_copyFrom, qs_X1_copyFrom, qm_X7_51⟩
set_option maxRecDepth 20000 in
theorem cb_X3_copyFrom : CB MX3_copyFrom 1 := ⟨qn_X3, qc_X3_copyFrom, ⟨by decide +kernel, by decide +kernel⟩, by decide +kernel, by decide⟩
set_option maxRecDepth 20000 in
theorem cv_X7_54 : CV RX7 54 MX3_copyFrom 1 := ⟨cb_X3_copyFrom, qi_X3_copyFrom, qs_X3_copyFrom, qm_X7_54⟩
set_option maxRecDepth 20000 in
theorem cb_X9_copyFrom : CB MX9_copyFrom 1 := ⟨qn_X9, qc_X9_copyFrom, ⟨by decide +kernel, by decide +kernel⟩, by decide +kernel, by decide⟩
set_option maxRecDepth 20000 in
theorem cv_X7_57 : CV RX7 57 MX9_copyFrom 1 := ⟨cb_X9_copyFrom, qi_X9_copyFrom, qs_X9_copyFrom, qm_X7_57⟩
set_option maxRecDepth 20000 in
theorem fg_X7_66 : FG RX7 66 7 6 := ⟨RX7, TX7, 7, rfl, by decide, iw_X7, qf_X7_66⟩
set_option maxRecDepth 20000 in
theorem fp_X7_66 : FP0 RX7 66 7 6 false .int := ⟨RX7, TX7, 7, tyX7, rfl, by decide, iw_X7, qf_X7_66, tyX7_ok, nmX7, rfl, by decide +kernel, fun q => by cases q⟩
set_option maxRecDepth 20000 in
theorem fg_X7_70 : FG RX7 70 1 10 := ⟨RX1, TX1, 11, rfl, by decide, iw_X1, qf_X7_70⟩
set_option maxRecDepth 20000 in
theorem fp_X7_70 : FP0 RX7 70 1 10 false .int := ⟨RX1, TX1, 11, tyX1, rfl, by decide, iw_X1, qf_X7_70, tyX1_ok, nmX1, rfl, by decide +kernel, fun q => by cases q⟩
set_option maxRecDepth 20000 in
theorem fg_X7_73 : FG RX7 73 3 6 := ⟨RX3, TX3, 7, rfl, by decide, iw_X3, qf_X7_73⟩
set_option maxRecDepth 20000 in
theorem fp_X7_73 : FP0 RX7 73 3 6 false .int := ⟨RX3, TX3, 7, tyX3, rfl, by decide, iw_X3, qf_X7_73, tyX3_ok, nmX3, rfl, by decide +kernel, fun q => by cases q⟩
set_option maxRecDepth 20000 in
theorem cb_X9_clear : CB MX9_clear 0 := ⟨qn_X9, qc_X9_clear, ⟨by decide +kernel, by decide +kernel⟩, by decide +kernel, by decide⟩
set_option maxRecDepth 20000 in
theorem cv_X7_76 : CV RX7 76 MX9_clear 0 := ⟨cb_X9_clear, qi_X9_clear, qs_X9_clear, qm_X7_76⟩
set_option maxRecDepth 20000 in
theorem cb_J7_fill_7f8df : CB MJ7_fill_7f8df 2 := ⟨qn_J7, qc_J7_fill_7f8df, ⟨by decide +kernel, by decide +kernel⟩, by decide +kernel, by decide⟩
set_option maxRecDepth 20000 in
theorem cs_X7_79 : CS RX7 79 MJ7_fill_7f8df 2 := ⟨cb_J7_fill_7f8df, qt_J7_fill_7f8df, qm_X7_79⟩
set_option maxRecDepth 20000 in
theorem cs_X7_85 : CS RX7 85 MJ7_fill_53178 2 := ⟨cb_J7_fill_53178, qt_J7_fill_53178, qm_X7_85⟩
set_option maxRecDepth 20000 in
theorem cb_X7_startPeriod : CB MX7_startPeriod 0 := ⟨qn_X7, qc_X7_startPeriod, ⟨by decide +kernel, by decide +kernel⟩, by decide +kernel, by decide⟩
set_option maxRecDepth 20000 in
theorem cv_X7_88 : CV RX7 88 MX7_startPeriod 0 := ⟨cb_X7_startPeriod, qi_X7_startPeriod, qs_X7_startPeriod, qm_X7_88⟩
set_option maxRecDepth 20000 in
theorem fg_X7_91 : FG RX7 91 5 3 := ⟨RX5, TX5, 5, rfl, by decide, iw_X5, qf_X7_91⟩
set_option maxRecDepth 20000 in
theorem fg_X7_94 : FG RX7 94 5 4 := ⟨RX5, TX5, 5, rfl, by decide, iw_X5, qf_X7_94⟩
set_option maxRecDepth 20000 in
theorem cv_X7_97 : CV RX7 97 MX7_hasImporter 1 := ⟨cb_X7_hasImporter, qi_X7_hasImporter, qs_X7_hasImporter, qm_X7_97⟩
set_option maxRecDepth 20000 in
theorem cv_X7_101 : CV RX7 101 MX7_hasOrigin 1 := ⟨cb_X7_hasOrigin, qi_X7_hasOrigin, qs_X7_hasOrigin, qm_X7_101⟩
set_option maxRecDepth 20000 in
theorem cv_X7_104 : CV RX7 104 MX7_leftIn 1 := ⟨cb_X7_leftIn, qi_X7_leftIn, qs_X7_leftIn, qm_X7_104⟩
set_option maxRecDepth 20000 in
theorem fg_X7_108 : FG RX7 108 5 1 := ⟨RX5, TX5, 5, rfl, by decide, iw_X5, qf_X7_108⟩
set_option maxRecDepth 20000 in
theorem cb_X3_clearFigures : CB MX3_clearFigures 1 := ⟨qn_X3, qc_X3_clearFigures, ⟨by decide +kernel, by decide +kernel⟩, by decide +kernel, by decide⟩
set_option maxRecDepth 20000 in
theorem cv_X7_111 : CV RX7 111 MX3_clearFigures 1 := ⟨cb_X3_clearFigures, qi_X3_clearFigures, qs_X3_clearFigures, qm_X7_111⟩
set_option maxRecDepth 20000 in
theorem cb_X3_add : CB MX3_add 3 := ⟨qn_X3, qc_X3_add, ⟨by decide +kernel, by decide +kernel⟩, by decide +kernel, by decide⟩
set_option maxRecDepth 20000 in
theorem cv_X7_115 : CV RX7 115 MX3_add 3 := ⟨cb_X3_add, qi_X3_add, qs_X3_add, qm_X7_115⟩
set_option maxRecDepth 20000 in
theorem cb_X7_partOut : CB MX7_partOut 2 := ⟨qn_X7, qc_X7_partOut, ⟨by decide +kernel, by decide +kernel⟩, by decide +kernel, by decide⟩
set_option maxRecDepth 20000 in
theorem cv_X7_119 : CV RX7 119 MX7_partOut 2 := ⟨cb_X7_partOut, qi_X7_partOut, qs_X7_partOut, qm_X7_119⟩
set_option maxRecDepth 20000 in
theorem cs_X7_123 : CSN RX7 123 MX10_pairOf 2 := ⟨cb_X10_pairOf, qt_X10_pairOf, "QuotaLicences", List.mem_of_getElem? (i := 14) rfl⟩
set_option maxRecDepth 20000 in
theorem fg_X7_126 : FG RX7 126 3 1 := ⟨RX3, TX3, 7, rfl, by decide, iw_X3, qf_X7_126⟩
set_option maxRecDepth 20000 in
theorem cv_X7_129 : CV RX7 129 MX5_yearsWithSome 1 := ⟨cb_X5_yearsWithSome, qi_X5_yearsWithSome, qs_X5_yearsWithSome, qm_X7_129⟩
set_option maxRecDepth 20000 in
theorem fg_X7_132 : FG RX7 132 5 0 := ⟨RX5, TX5, 5, rfl, by decide, iw_X5, qf_X7_132⟩
set_option maxRecDepth 20000 in
theorem fg_X7_135 : FG RX7 135 3 4 := ⟨RX3, TX3, 7, rfl, by decide, iw_X3, qf_X7_135⟩
set_option maxRecDepth 20000 in
theorem cv_X7_138 : CV RX7 138 MX7_shareBy 4 := ⟨cb_X7_shareBy, qi_X7_shareBy, qs_X7_shareBy, qm_X7_138⟩
set_option maxRecDepth 20000 in
theorem fg_X7_142 : FG RX7 142 3 2 := ⟨RX3, TX3, 7, rfl, by decide, iw_X3, qf_X7_142⟩
set_option maxRecDepth 20000 in
theorem fg_X7_145 : FG RX7 145 3 3 := ⟨RX3, TX3, 7, rfl, by decide, iw_X3, qf_X7_145⟩
set_option maxRecDepth 20000 in
theorem cv_X7_148 : CV RX7 148 MX3_isTraditional 1 := ⟨cb_X3_isTraditional, qi_X3_isTraditional, qs_X3_isTraditional, qm_X7_148⟩
set_option maxRecDepth 20000 in
theorem cv_X7_151 : CV RX7 151 MX5_inOldYears 1 := ⟨cb_X5_inOldYears, qi_X5_inOldYears, qs_X5_inOldYears, qm_X7_151⟩
set_option maxRecDepth 20000 in
theorem cb_X10_partOfAll : CB MX10_partOfAll 3 := ⟨qn_X10, qc_X10_partOfAll, ⟨by decide +kernel, by decide +kernel⟩, by decide +kernel, by decide⟩
set_option maxRecDepth 20000 in
theorem cs_X7_154 : CSN RX7 154 MX10_partOfAll 3 := ⟨cb_X10_partOfAll, qt_X10_partOfAll, "QuotaLicences", List.mem_of_getElem? (i := 15) rfl⟩
set_option maxRecDepth 20000 in
theorem cb_X7_countsNextYear : CB MX7_countsNextYear 1 := ⟨qn_X7, qc_X7_countsNextYear, ⟨by decide +kernel, by decide +kernel⟩, by decide +kernel, by decide⟩
set_option maxRecDepth 20000 in
theorem cv_X7_158 : CV RX7 158 MX7_countsNextYear 1 := ⟨cb_X7_countsNextYear, qi_X7_countsNextYear, qs_X7_countsNextYear, qm_X7_158⟩
set_option maxRecDepth 20000 in
theorem fg_X7_161 : FG RX7 161 9 0 := ⟨RX9, TX9, 3, rfl, by decide, iw_X9, qf_X7_161⟩
set_option maxRecDepth 20000 in
theorem cv_X7_164 : CV RX7 164 MX5_inYear 2 := ⟨cb_X5_inYear, qi_X5_inYear, qs_X5_inYear, qm_X7_164⟩
set_option maxRecDepth 20000 in
theorem cv_X7_167 : CV RX7 167 MX3_figure 2 := ⟨cb_X3_figure, qi_X3_figure, qs_X3_figure, qm_X7_167⟩
set_option maxRecDepth 20000 in
theorem cv_X7_170 : CV RX7 170 MX1_isOpen 1 := ⟨cb_X1_isOpen, qi_X1_isOpen, qs_X1_isOpen, qm_X7_170⟩
set_option maxRecDepth 20000 in
theorem fg_X7_173 : FG RX7 173 1 4 := ⟨RX1, TX1, 11, rfl, by decide, iw_X1, qf_X7_173⟩
set_option maxRecDepth 20000 in
theorem cv_X7_176 : CV RX7 176 MX7_closeIntoPool 2 := ⟨cb_X7_closeIntoPool, qi_X7_closeIntoPool, qs_X7_closeIntoPool, qm_X7_176⟩
set_option maxRecDepth 20000 in
theorem cb_X7_turnYear : CB MX7_turnYear 0 := ⟨qn_X7, qc_X7_turnYear, ⟨by decide +kernel, by decide +kernel⟩, by decide +kernel, by decide⟩
set_option maxRecDepth 20000 in
theorem cv_X7_179 : CV RX7 179 MX7_turnYear 0 := ⟨cb_X7_turnYear, qi_X7_turnYear, qs_X7_turnYear, qm_X7_179⟩
set_option maxRecDepth 20000 in
theorem cb_X3_writeLog : CB MX3_writeLog 0 := ⟨qn_X3, qc_X3_writeLog, ⟨by decide +kernel, by decide +kernel⟩, by decide +kernel, by decide⟩
set_option maxRecDepth 20000 in
theorem cv_X7_182 : CV RX7 182 MX3_writeLog 0 := ⟨cb_X3_writeLog, qi_X3_writeLog, qs_X3_writeLog, qm_X7_182⟩
set_option maxRecDepth 20000 in
theorem cb_X5_growOlder : CB MX5_growOlder 2 := ⟨qn_X5, qc_X5_growOlder, ⟨by decide +kernel, by decide +kernel⟩, by decide +kernel, by decide⟩
set_option maxRecDepth 20000 in
theorem cv_X7_185 : CV RX7 185 MX5_growOlder 2 := ⟨cb_X5_growOlder, qi_X5_growOlder, qs_X5_growOlder, qm_X7_185⟩
set_option maxRecDepth 20000 in
theorem fg_X7_189 : FG RX7 189 1 3 := ⟨RX1, TX1, 11, rfl, by decide, iw_X1, qf_X7_189⟩
set_option maxRecDepth 20000 in
theorem cv_X7_192 : CV RX7 192 MX7_offerOf 5 := ⟨cb_X7_offerOf, qi_X7_offerOf, qs_X7_offerOf, qm_X7_192⟩
set_option maxRecDepth 20000 in
theorem cv_X7_196 : CV RX7 196 MX7_isKeptOut 2 := ⟨cb_X7_isKeptOut, qi_X7_isKeptOut, qs_X7_isKeptOut, qm_X7_196⟩
set_option maxRecDepth 20000 in
theorem cs_X7_200 : CS RX7 200 MJ9_min_7cf53 2 := ⟨cb_J9_min_7cf53, qt_J9_min_7cf53, qm_X7_200⟩
set_option maxRecDepth 20000 in
theorem cv_X7_205 : CV RX7 205 MX1_issue 6 := ⟨cb_X1_issue, qi_X1_issue, qs_X1_issue, qm_X7_205⟩
set_option maxRecDepth 20000 in
theorem fg_X7_209 : FG RX7 209 1 0 := ⟨RX1, TX1, 11, rfl, by decide, iw_X1, qf_X7_209⟩
set_option maxRecDepth 20000 in
theorem fg_X7_212 : FG RX7 212 1 1 := ⟨RX1, TX1, 11, rfl, by decide, iw_X1, qf_X7_212⟩
set_option maxRecDepth 20000 in
theorem fg_X7_215 : FG RX7 215 1 5 := ⟨RX1, TX1, 11, rfl, by decide, iw_X1, qf_X7_215⟩
set_option maxRecDepth 20000 in
theorem fg_X7_218 : FG RX7 218 1 9 := ⟨RX1, TX1, 11, rfl, by decide, iw_X1, qf_X7_218⟩
set_option maxRecDepth 20000 in
theorem cv_X7_221 : CV RX7 221 MX1_closeIfUsedUp 2 := ⟨cb_X1_closeIfUsedUp, qi_X1_closeIfUsedUp, qs_X1_closeIfUsedUp, qm_X7_221⟩
set_option maxRecDepth 20000 in
theorem fg_X7_224 : FG RX7 224 9 1 := ⟨RX9, TX9, 3, rfl, by decide, iw_X9, qf_X7_224⟩
set_option maxRecDepth 20000 in
theorem fg_X7_227 : FG RX7 227 9 2 := ⟨RX9, TX9, 3, rfl, by decide, iw_X9, qf_X7_227⟩
set_option maxRecDepth 20000 in
theorem cv_X7_232 : CV RX7 232 MX1_remains 1 := ⟨cb_X1_remains, qi_X1_remains, qs_X1_remains, qm_X7_232⟩
set_option maxRecDepth 20000 in
theorem cv_X7_235 : CV RX7 235 MX1_close 3 := ⟨cb_X1_close, qi_X1_close, qs_X1_close, qm_X7_235⟩
set_option maxRecDepth 20000 in
theorem cb_X7_isOfThisPeriod : CB MX7_isOfThisPeriod 1 := ⟨qn_X7, qc_X7_isOfThisPeriod, ⟨by decide +kernel, by decide +kernel⟩, by decide +kernel, by decide⟩
set_option maxRecDepth 20000 in
theorem cv_X7_238 : CV RX7 238 MX7_isOfThisPeriod 1 := ⟨cb_X7_isOfThisPeriod, qi_X7_isOfThisPeriod, qs_X7_isOfThisPeriod, qm_X7_238⟩
set_option maxRecDepth 20000 in
theorem cv_X7_241 : CV RX7 241 MX7_neededFor 1 := ⟨cb_X7_neededFor, qi_X7_neededFor, qs_X7_neededFor, qm_X7_241⟩
set_option maxRecDepth 20000 in
theorem fg_X7_244 : FG RX7 244 1 2 := ⟨RX1, TX1, 11, rfl, by decide, iw_X1, qf_X7_244⟩
set_option maxRecDepth 20000 in
theorem cb_X1_endedLast : CB MX1_endedLast 2 := ⟨qn_X1, qc_X1_endedLast, ⟨by decide +kernel, by decide +kernel⟩, by decide +kernel, by decide⟩
set_option maxRecDepth 20000 in
theorem cv_X7_247 : CV RX7 247 MX1_endedLast 2 := ⟨cb_X1_endedLast, qi_X1_endedLast, qs_X1_endedLast, qm_X7_247⟩
set_option maxRecDepth 20000 in
theorem cv_X7_250 : CV RX7 250 MX7_isIdle 1 := ⟨cb_X7_isIdle, qi_X7_isIdle, qs_X7_isIdle, qm_X7_250⟩
set_option maxRecDepth 20000 in
theorem cv_X7_253 : CV RX7 253 MX9_importedBy 1 := ⟨cb_X9_importedBy, qi_X9_importedBy, qs_X9_importedBy, qm_X7_253⟩
set_option maxRecDepth 20000 in
theorem fg_X8_9 : FG RX8 9 8 0 := ⟨RX8, TX8, 2, rfl, by decide, iw_X8, qf_X8_9⟩
set_option maxRecDepth 20000 in
theorem fp_X8_9 : FP0 RX8 9 8 0 true (.array .byte) := ⟨RX8, TX8, 2, tyX8, rfl, by decide, iw_X8, qf_X8_9, tyX8_ok, nmX8, rfl, by decide +kernel, fun _ => rfl⟩
set_option maxRecDepth 20000 in
theorem fg_X8_15 : FG RX8 15 8 1 := ⟨RX8, TX8, 2, rfl, by decide, iw_X8, qf_X8_15⟩
set_option maxRecDepth 20000 in
theorem fp_X8_15 : FP0 RX8 15 8 1 false .int := ⟨RX8, TX8, 2, tyX8, rfl, by decide, iw_X8, qf_X8_15, tyX8_ok, nmX8, rfl, by decide +kernel, fun q => by cases q⟩
set_option maxRecDepth 20000 in
theorem cb_X8_takeFour : CB MX8_takeFour 1 := ⟨qn_X8, qc_X8_takeFour, ⟨by decide +kernel, by decide +kernel⟩, by decide +kernel, by decide⟩
set_option maxRecDepth 20000 in
theorem cv_X8_19 : CV RX8 19 MX8_takeFour 1 := ⟨cb_X8_takeFour, qi_X8_takeFour, qs_X8_takeFour, qm_X8_19⟩
set_option maxRecDepth 20000 in
theorem fg_X9_9 : FG RX9 9 9 0 := ⟨RX9, TX9, 3, rfl, by decide, iw_X9, qf_X9_9⟩
set_option maxRecDepth 20000 in
theorem fp_X9_9 : FP0 RX9 9 9 0 true (.array .int) := ⟨RX9, TX9, 3, tyX9, rfl, by decide, iw_X9, qf_X9_9, tyX9_ok, nmX9, rfl, by decide +kernel, fun _ => rfl⟩
set_option maxRecDepth 20000 in
theorem fg_X9_15 : FG RX9 15 9 1 := ⟨RX9, TX9, 3, rfl, by decide, iw_X9, qf_X9_15⟩
set_option maxRecDepth 20000 in
theorem fp_X9_15 : FP0 RX9 15 9 1 true (.array .int) := ⟨RX9, TX9, 3, tyX9, rfl, by decide, iw_X9, qf_X9_15, tyX9_ok, nmX9, rfl, by decide +kernel, fun _ => rfl⟩
set_option maxRecDepth 20000 in
theorem fg_X9_18 : FG RX9 18 9 2 := ⟨RX9, TX9, 3, rfl, by decide, iw_X9, qf_X9_18⟩
set_option maxRecDepth 20000 in
theorem fp_X9_18 : FP0 RX9 18 9 2 true (.array .int) := ⟨RX9, TX9, 3, tyX9, rfl, by decide, iw_X9, qf_X9_18, tyX9_ok, nmX9, rfl, by decide +kernel, fun _ => rfl⟩
set_option maxRecDepth 20000 in
theorem cs_X9_21 : CS RX9 21 MJ7_fill_53178 2 := ⟨cb_J7_fill_53178, qt_J7_fill_53178, qm_X9_21⟩
set_option maxRecDepth 20000 in
theorem nb_L_7 : NB RX10 10 6 RL 7 [.null, .null, .null, .null, .null, .null] := ⟨TX10, tyX10, rfl, iw_X10, tyX10_ok, ql_L_7, qb_X10, qn_X10, by intro k hk; match k, hk with | 0, _ => rfl | 1, _ => rfl | 2, _ => rfl | 3, _ => rfl | 4, _ => rfl | 5, _ => rfl | n + 6, h => exact absurd h (by omega)⟩
set_option maxRecDepth 20000 in
theorem cb_X10_init : CB MX10_init 0 := ⟨qn_X10, qc_X10_init, ⟨by decide +kernel, by decide +kernel⟩, by decide +kernel, by decide⟩
set_option maxRecDepth 20000 in
theorem ci_L_9 : CI RL 9 MX10_init 0 := ⟨cb_X10_init, qi_X10_init, rfl, qm_L_9, rfl⟩
set_option maxRecDepth 20000 in
theorem nb_L_10 : NB RX11 11 18 RL 10 [.null, .null, .null, .null, .null, .null, vi 0, .null, vi 0, vi 0, vi 0, vi 0, .null, vi 0, vi 0, vi 0, vi 0, vi 0] := ⟨TX11, tyX11, rfl, iw_X11, tyX11_ok, ql_L_10, qb_X11, qn_X11, by intro k hk; match k, hk with | 0, _ => rfl | 1, _ => rfl | 2, _ => rfl | 3, _ => rfl | 4, _ => rfl | 5, _ => rfl | 6, _ => rfl | 7, _ => rfl | 8, _ => rfl | 9, _ => rfl | 10, _ => rfl | 11, _ => rfl | 12, _ => rfl | 13, _ => rfl | 14, _ => rfl | 15, _ => rfl | 16, _ => rfl | 17, _ => rfl | n + 18, h => exact absurd h (by omega)⟩
set_option maxRecDepth 20000 in
theorem cb_X11_init : CB MX11_init 0 := ⟨qn_X11, qc_X11_init, ⟨by decide +kernel, by decide +kernel⟩, by decide +kernel, by decide⟩
set_option maxRecDepth 20000 in
theorem ci_L_12 : CI RL 12 MX11_init 0 := ⟨cb_X11_init, qi_X11_init, rfl, qm_L_12, rfl⟩
set_option maxRecDepth 20000 in
theorem cb_X10_feed : CB MX10_feed 5 := ⟨qn_X10, qc_X10_feed, ⟨by decide +kernel, by decide +kernel⟩, by decide +kernel, by decide⟩
set_option maxRecDepth 20000 in
theorem cv_L_13 : CV RL 13 MX10_feed 5 := ⟨cb_X10_feed, qi_X10_feed, qs_X10_feed, qm_L_13⟩
set_option maxRecDepth 20000 in
theorem cb_X11_feed : CB MX11_feed 5 := ⟨qn_X11, qc_X11_feed, ⟨by decide +kernel, by decide +kernel⟩, by decide +kernel, by decide⟩
set_option maxRecDepth 20000 in
theorem cv_L_17 : CV RL 17 MX11_feed 5 := ⟨cb_X11_feed, qi_X11_feed, qs_X11_feed, qm_L_17⟩
set_option maxRecDepth 20000 in
theorem cb_X10_end : CB MX10_end 1 := ⟨qn_X10, qc_X10_end, ⟨by decide +kernel, by decide +kernel⟩, by decide +kernel, by decide⟩
set_option maxRecDepth 20000 in
theorem cv_L_18 : CV RL 18 MX10_end 1 := ⟨cb_X10_end, qi_X10_end, qs_X10_end, qm_L_18⟩
set_option maxRecDepth 20000 in
theorem cb_X11_end : CB MX11_end 1 := ⟨qn_X11, qc_X11_end, ⟨by decide +kernel, by decide +kernel⟩, by decide +kernel, by decide⟩
set_option maxRecDepth 20000 in
theorem cv_L_22 : CV RL 22 MX11_end 1 := ⟨cb_X11_end, qi_X11_end, qs_X11_end, qm_L_22⟩
set_option maxRecDepth 20000 in
theorem cb_X10_tell : CB MX10_tell 0 := ⟨qn_X10, qc_X10_tell, ⟨by decide +kernel, by decide +kernel⟩, by decide +kernel, by decide⟩
set_option maxRecDepth 20000 in
theorem cv_L_23 : CV RL 23 MX10_tell 0 := ⟨cb_X10_tell, qi_X10_tell, qs_X10_tell, qm_L_23⟩
set_option maxRecDepth 20000 in
theorem cb_X11_tell : CB MX11_tell 0 := ⟨qn_X11, qc_X11_tell, ⟨by decide +kernel, by decide +kernel⟩, by decide +kernel, by decide⟩
set_option maxRecDepth 20000 in
theorem cv_L_27 : CV RL 27 MX11_tell 0 := ⟨cb_X11_tell, qi_X11_tell, qs_X11_tell, qm_L_27⟩
set_option maxRecDepth 20000 in
theorem cb_X10_apply : CB MX10_apply 3 := ⟨qn_X10, qc_X10_apply, ⟨by decide +kernel, by decide +kernel⟩, by decide +kernel, by decide⟩
set_option maxRecDepth 20000 in
theorem cv_L_28 : CV RL 28 MX10_apply 3 := ⟨cb_X10_apply, qi_X10_apply, qs_X10_apply, qm_L_28⟩
set_option maxRecDepth 20000 in
theorem cb_X11_apply : CB MX11_apply 3 := ⟨qn_X11, qc_X11_apply, ⟨by decide +kernel, by decide +kernel⟩, by decide +kernel, by decide⟩
set_option maxRecDepth 20000 in
theorem cv_L_32 : CV RL 32 MX11_apply 3 := ⟨cb_X11_apply, qi_X11_apply, qs_X11_apply, qm_L_32⟩
set_option maxRecDepth 20000 in
theorem cb_X10_use : CB MX10_use 2 := ⟨qn_X10, qc_X10_use, ⟨by decide +kernel, by decide +kernel⟩, by decide +kernel, by decide⟩
set_option maxRecDepth 20000 in
theorem cv_L_33 : CV RL 33 MX10_use 2 := ⟨cb_X10_use, qi_X10_use, qs_X10_use, qm_L_33⟩
set_option maxRecDepth 20000 in
theorem cb_X11_use : CB MX11_use 2 := ⟨qn_X11, qc_X11_use, ⟨by decide +kernel, by decide +kernel⟩, by decide +kernel, by decide⟩
set_option maxRecDepth 20000 in
theorem cv_L_37 : CV RL 37 MX11_use 2 := ⟨cb_X11_use, qi_X11_use, qs_X11_use, qm_L_37⟩
set_option maxRecDepth 20000 in
theorem cb_X10_giveBack : CB MX10_giveBack 1 := ⟨qn_X10, qc_X10_giveBack, ⟨by decide +kernel, by decide +kernel⟩, by decide +kernel, by decide⟩
set_option maxRecDepth 20000 in
theorem cv_L_38 : CV RL 38 MX10_giveBack 1 := ⟨cb_X10_giveBack, qi_X10_giveBack, qs_X10_giveBack, qm_L_38⟩
set_option maxRecDepth 20000 in
theorem cb_X11_giveBack : CB MX11_giveBack 1 := ⟨qn_X11, qc_X11_giveBack, ⟨by decide +kernel, by decide +kernel⟩, by decide +kernel, by decide⟩
set_option maxRecDepth 20000 in
theorem cv_L_41 : CV RL 41 MX11_giveBack 1 := ⟨cb_X11_giveBack, qi_X11_giveBack, qs_X11_giveBack, qm_L_41⟩
set_option maxRecDepth 20000 in
theorem cb_X10_hand : CB MX10_hand 3 := ⟨qn_X10, qc_X10_hand, ⟨by decide +kernel, by decide +kernel⟩, by decide +kernel, by decide⟩
set_option maxRecDepth 20000 in
theorem cv_L_42 : CV RL 42 MX10_hand 3 := ⟨cb_X10_hand, qi_X10_hand, qs_X10_hand, qm_L_42⟩
set_option maxRecDepth 20000 in
theorem cb_X11_hand : CB MX11_hand 3 := ⟨qn_X11, qc_X11_hand, ⟨by decide +kernel, by decide +kernel⟩, by decide +kernel, by decide⟩
set_option maxRecDepth 20000 in
theorem cv_L_45 : CV RL 45 MX11_hand 3 := ⟨cb_X11_hand, qi_X11_hand, qs_X11_hand, qm_L_45⟩
set_option maxRecDepth 20000 in
theorem cb_X10_merge : CB MX10_merge 2 := ⟨qn_X10, qc_X10_merge, ⟨by decide +kernel, by decide +kernel⟩, by decide +kernel, by decide⟩
set_option maxRecDepth 20000 in
theorem cv_L_46 : CV RL 46 MX10_merge 2 := ⟨cb_X10_merge, qi_X10_merge, qs_X10_merge, qm_L_46⟩
set_option maxRecDepth 20000 in
theorem cb_X11_merge : CB MX11_merge 2 := ⟨qn_X11, qc_X11_merge, ⟨by decide +kernel, by decide +kernel⟩, by decide +kernel, by decide⟩
set_option maxRecDepth 20000 in
theorem cv_L_49 : CV RL 49 MX11_merge 2 := ⟨cb_X11_merge, qi_X11_merge, qs_X11_merge, qm_L_49⟩
set_option maxRecDepth 20000 in
theorem cb_X10_lend : CB MX10_lend 4 := ⟨qn_X10, qc_X10_lend, ⟨by decide +kernel, by decide +kernel⟩, by decide +kernel, by decide⟩
set_option maxRecDepth 20000 in
theorem cv_L_50 : CV RL 50 MX10_lend 4 := ⟨cb_X10_lend, qi_X10_lend, qs_X10_lend, qm_L_50⟩
set_option maxRecDepth 20000 in
theorem cb_X11_lend : CB MX11_lend 4 := ⟨qn_X11, qc_X11_lend, ⟨by decide +kernel, by decide +kernel⟩, by decide +kernel, by decide⟩
set_option maxRecDepth 20000 in
theorem cv_L_54 : CV RL 54 MX11_lend 4 := ⟨cb_X11_lend, qi_X11_lend, qs_X11_lend, qm_L_54⟩
set_option maxRecDepth 20000 in
theorem cb_X10_excess : CB MX10_excess 4 := ⟨qn_X10, qc_X10_excess, ⟨by decide +kernel, by decide +kernel⟩, by decide +kernel, by decide⟩
set_option maxRecDepth 20000 in
theorem cv_L_55 : CV RL 55 MX10_excess 4 := ⟨cb_X10_excess, qi_X10_excess, qs_X10_excess, qm_L_55⟩
set_option maxRecDepth 20000 in
theorem cb_X11_excess : CB MX11_excess 4 := ⟨qn_X11, qc_X11_excess, ⟨by decide +kernel, by decide +kernel⟩, by decide +kernel, by decide⟩
set_option maxRecDepth 20000 in
theorem cv_L_59 : CV RL 59 MX11_excess 4 := ⟨cb_X11_excess, qi_X11_excess, qs_X11_excess, qm_L_59⟩
set_option maxRecDepth 20000 in
theorem cb_X10_days : CB MX10_days 1 := ⟨qn_X10, qc_X10_days, ⟨by decide +kernel, by decide +kernel⟩, by decide +kernel, by decide⟩
set_option maxRecDepth 20000 in
theorem cv_L_60 : CV RL 60 MX10_days 1 := ⟨cb_X10_days, qi_X10_days, qs_X10_days, qm_L_60⟩
set_option maxRecDepth 20000 in
theorem cb_X11_days : CB MX11_days 1 := ⟨qn_X11, qc_X11_days, ⟨by decide +kernel, by decide +kernel⟩, by decide +kernel, by decide⟩
set_option maxRecDepth 20000 in
theorem cv_L_63 : CV RL 63 MX11_days 1 := ⟨cb_X11_days, qi_X11_days, qs_X11_days, qm_L_63⟩
set_option maxRecDepth 20000 in
theorem cb_X10_widen : CB MX10_widen 2 := ⟨qn_X10, qc_X10_widen, ⟨by decide +kernel, by decide +kernel⟩, by decide +kernel, by decide⟩
set_option maxRecDepth 20000 in
theorem cv_L_64 : CV RL 64 MX10_widen 2 := ⟨cb_X10_widen, qi_X10_widen, qs_X10_widen, qm_L_64⟩
set_option maxRecDepth 20000 in
theorem cb_X11_widen : CB MX11_widen 2 := ⟨qn_X11, qc_X11_widen, ⟨by decide +kernel, by decide +kernel⟩, by decide +kernel, by decide⟩
set_option maxRecDepth 20000 in
theorem cv_L_67 : CV RL 67 MX11_widen 2 := ⟨cb_X11_widen, qi_X11_widen, qs_X11_widen, qm_L_67⟩
set_option maxRecDepth 20000 in
theorem cb_X10_set : CB MX10_set 2 := ⟨qn_X10, qc_X10_set, ⟨by decide +kernel, by decide +kernel⟩, by decide +kernel, by decide⟩
set_option maxRecDepth 20000 in
theorem cv_L_68 : CV RL 68 MX10_set 2 := ⟨cb_X10_set, qi_X10_set, qs_X10_set, qm_L_68⟩
set_option maxRecDepth 20000 in
theorem cb_X11_set : CB MX11_set 2 := ⟨qn_X11, qc_X11_set, ⟨by decide +kernel, by decide +kernel⟩, by decide +kernel, by decide⟩
set_option maxRecDepth 20000 in
theorem cv_L_71 : CV RL 71 MX11_set 2 := ⟨cb_X11_set, qi_X11_set, qs_X11_set, qm_L_71⟩
set_option maxRecDepth 20000 in
theorem cb_X10_undo : CB MX10_undo 0 := ⟨qn_X10, qc_X10_undo, ⟨by decide +kernel, by decide +kernel⟩, by decide +kernel, by decide⟩
set_option maxRecDepth 20000 in
theorem cv_L_72 : CV RL 72 MX10_undo 0 := ⟨cb_X10_undo, qi_X10_undo, qs_X10_undo, qm_L_72⟩
set_option maxRecDepth 20000 in
theorem cb_X11_undo : CB MX11_undo 0 := ⟨qn_X11, qc_X11_undo, ⟨by decide +kernel, by decide +kernel⟩, by decide +kernel, by decide⟩
set_option maxRecDepth 20000 in
theorem cv_L_75 : CV RL 75 MX11_undo 0 := ⟨cb_X11_undo, qi_X11_undo, qs_X11_undo, qm_L_75⟩
set_option maxRecDepth 20000 in
theorem cb_X10_keep : CB MX10_keep 1 := ⟨qn_X10, qc_X10_keep, ⟨by decide +kernel, by decide +kernel⟩, by decide +kernel, by decide⟩
set_option maxRecDepth 20000 in
theorem cv_L_76 : CV RL 76 MX10_keep 1 := ⟨cb_X10_keep, qi_X10_keep, qs_X10_keep, qm_L_76⟩
set_option maxRecDepth 20000 in
theorem cb_X11_keep : CB MX11_keep 1 := ⟨qn_X11, qc_X11_keep, ⟨by decide +kernel, by decide +kernel⟩, by decide +kernel, by decide⟩
set_option maxRecDepth 20000 in
theorem cv_L_79 : CV RL 79 MX11_keep 1 := ⟨cb_X11_keep, qi_X11_keep, qs_X11_keep, qm_L_79⟩
set_option maxRecDepth 20000 in
theorem cb_X10_back : CB MX10_back 1 := ⟨qn_X10, qc_X10_back, ⟨by decide +kernel, by decide +kernel⟩, by decide +kernel, by decide⟩
set_option maxRecDepth 20000 in
theorem cv_L_80 : CV RL 80 MX10_back 1 := ⟨cb_X10_back, qi_X10_back, qs_X10_back, qm_L_80⟩
set_option maxRecDepth 20000 in
theorem cb_X11_back : CB MX11_back 1 := ⟨qn_X11, qc_X11_back, ⟨by decide +kernel, by decide +kernel⟩, by decide +kernel, by decide⟩
set_option maxRecDepth 20000 in
theorem cv_L_83 : CV RL 83 MX11_back 1 := ⟨cb_X11_back, qi_X11_back, qs_X11_back, qm_L_83⟩
set_option maxRecDepth 20000 in
theorem cb_X10_told : CB MX10_told 1 := ⟨qn_X10, qc_X10_told, ⟨by decide +kernel, by decide +kernel⟩, by decide +kernel, by decide⟩
set_option maxRecDepth 20000 in
theorem cv_L_84 : CV RL 84 MX10_told 1 := ⟨cb_X10_told, qi_X10_told, qs_X10_told, qm_L_84⟩
set_option maxRecDepth 20000 in
theorem cb_X11_told : CB MX11_told 1 := ⟨qn_X11, qc_X11_told, ⟨by decide +kernel, by decide +kernel⟩, by decide +kernel, by decide⟩
set_option maxRecDepth 20000 in
theorem cv_L_87 : CV RL 87 MX11_told 1 := ⟨cb_X11_told, qi_X11_told, qs_X11_told, qm_L_87⟩
set_option maxRecDepth 20000 in
theorem cb_X10_origin : CB MX10_origin 2 := ⟨qn_X10, qc_X10_origin, ⟨by decide +kernel, by decide +kernel⟩, by decide +kernel, by decide⟩
set_option maxRecDepth 20000 in
theorem cv_L_88 : CV RL 88 MX10_origin 2 := ⟨cb_X10_origin, qi_X10_origin, qs_X10_origin, qm_L_88⟩
set_option maxRecDepth 20000 in
theorem cb_X11_origin : CB MX11_origin 2 := ⟨qn_X11, qc_X11_origin, ⟨by decide +kernel, by decide +kernel⟩, by decide +kernel, by decide⟩
set_option maxRecDepth 20000 in
theorem cv_L_91 : CV RL 91 MX11_origin 2 := ⟨cb_X11_origin, qi_X11_origin, qs_X11_origin, qm_L_91⟩
set_option maxRecDepth 20000 in
theorem cb_X10_past : CB MX10_past 3 := ⟨qn_X10, qc_X10_past, ⟨by decide +kernel, by decide +kernel⟩, by decide +kernel, by decide⟩
set_option maxRecDepth 20000 in
theorem cv_L_92 : CV RL 92 MX10_past 3 := ⟨cb_X10_past, qi_X10_past, qs_X10_past, qm_L_92⟩
set_option maxRecDepth 20000 in
theorem cb_X11_past : CB MX11_past 3 := ⟨qn_X11, qc_X11_past, ⟨by decide +kernel, by decide +kernel⟩, by decide +kernel, by decide⟩
set_option maxRecDepth 20000 in
theorem cv_L_95 : CV RL 95 MX11_past 3 := ⟨cb_X11_past, qi_X11_past, qs_X11_past, qm_L_95⟩
set_option maxRecDepth 20000 in
theorem cb_X10_sort : CB MX10_sort 2 := ⟨qn_X10, qc_X10_sort, ⟨by decide +kernel, by decide +kernel⟩, by decide +kernel, by decide⟩
set_option maxRecDepth 20000 in
theorem cv_L_96 : CV RL 96 MX10_sort 2 := ⟨cb_X10_sort, qi_X10_sort, qs_X10_sort, qm_L_96⟩
set_option maxRecDepth 20000 in
theorem cb_X11_sort : CB MX11_sort 2 := ⟨qn_X11, qc_X11_sort, ⟨by decide +kernel, by decide +kernel⟩, by decide +kernel, by decide⟩
set_option maxRecDepth 20000 in
theorem cv_L_99 : CV RL 99 MX11_sort 2 := ⟨cb_X11_sort, qi_X11_sort, qs_X11_sort, qm_L_99⟩
set_option maxRecDepth 20000 in
theorem cb_X10_mean : CB MX10_mean 2 := ⟨qn_X10, qc_X10_mean, ⟨by decide +kernel, by decide +kernel⟩, by decide +kernel, by decide⟩
set_option maxRecDepth 20000 in
theorem cv_L_100 : CV RL 100 MX10_mean 2 := ⟨cb_X10_mean, qi_X10_mean, qs_X10_mean, qm_L_100⟩
set_option maxRecDepth 20000 in
theorem cb_X11_mean : CB MX11_mean 2 := ⟨qn_X11, qc_X11_mean, ⟨by decide +kernel, by decide +kernel⟩, by decide +kernel, by decide⟩
set_option maxRecDepth 20000 in
theorem cv_L_104 : CV RL 104 MX11_mean 2 := ⟨cb_X11_mean, qi_X11_mean, qs_X11_mean, qm_L_104⟩
set_option maxRecDepth 20000 in
theorem cb_X10_share : CB MX10_share 3 := ⟨qn_X10, qc_X10_share, ⟨by decide +kernel, by decide +kernel⟩, by decide +kernel, by decide⟩
set_option maxRecDepth 20000 in
theorem cv_L_105 : CV RL 105 MX10_share 3 := ⟨cb_X10_share, qi_X10_share, qs_X10_share, qm_L_105⟩
set_option maxRecDepth 20000 in
theorem cb_X11_share : CB MX11_share 3 := ⟨qn_X11, qc_X11_share, ⟨by decide +kernel, by decide +kernel⟩, by decide +kernel, by decide⟩
set_option maxRecDepth 20000 in
theorem cv_L_108 : CV RL 108 MX11_share 3 := ⟨cb_X11_share, qi_X11_share, qs_X11_share, qm_L_108⟩
set_option maxRecDepth 20000 in
theorem cb_X10_licence : CB MX10_licence 2 := ⟨qn_X10, qc_X10_licence, ⟨by decide +kernel, by decide +kernel⟩, by decide +kernel, by decide⟩
set_option maxRecDepth 20000 in
theorem cv_L_109 : CV RL 109 MX10_licence 2 := ⟨cb_X10_licence, qi_X10_licence, qs_X10_licence, qm_L_109⟩
set_option maxRecDepth 20000 in
theorem cb_X11_licence : CB MX11_licence 2 := ⟨qn_X11, qc_X11_licence, ⟨by decide +kernel, by decide +kernel⟩, by decide +kernel, by decide⟩
set_option maxRecDepth 20000 in
theorem cv_L_112 : CV RL 112 MX11_licence 2 := ⟨cb_X11_licence, qi_X11_licence, qs_X11_licence, qm_L_112⟩
set_option maxRecDepth 20000 in
theorem cb_X10_month : CB MX10_month 2 := ⟨qn_X10, qc_X10_month, ⟨by decide +kernel, by decide +kernel⟩, by decide +kernel, by decide⟩
set_option maxRecDepth 20000 in
theorem cv_L_113 : CV RL 113 MX10_month 2 := ⟨cb_X10_month, qi_X10_month, qs_X10_month, qm_L_113⟩
set_option maxRecDepth 20000 in
theorem cb_X11_month : CB MX11_month 2 := ⟨qn_X11, qc_X11_month, ⟨by decide +kernel, by decide +kernel⟩, by decide +kernel, by decide⟩
set_option maxRecDepth 20000 in
theorem cv_L_116 : CV RL 116 MX11_month 2 := ⟨cb_X11_month, qi_X11_month, qs_X11_month, qm_L_116⟩
set_option maxRecDepth 20000 in
theorem cb_X10_rate : CB MX10_rate 1 := ⟨qn_X10, qc_X10_rate, ⟨by decide +kernel, by decide +kernel⟩, by decide +kernel, by decide⟩
set_option maxRecDepth 20000 in
theorem cv_L_117 : CV RL 117 MX10_rate 1 := ⟨cb_X10_rate, qi_X10_rate, qs_X10_rate, qm_L_117⟩
set_option maxRecDepth 20000 in
theorem cb_X11_rate : CB MX11_rate 1 := ⟨qn_X11, qc_X11_rate, ⟨by decide +kernel, by decide +kernel⟩, by decide +kernel, by decide⟩
set_option maxRecDepth 20000 in
theorem cv_L_121 : CV RL 121 MX11_rate 1 := ⟨cb_X11_rate, qi_X11_rate, qs_X11_rate, qm_L_121⟩
set_option maxRecDepth 20000 in
theorem cb_X10_idle : CB MX10_idle 2 := ⟨qn_X10, qc_X10_idle, ⟨by decide +kernel, by decide +kernel⟩, by decide +kernel, by decide⟩
set_option maxRecDepth 20000 in
theorem cv_L_122 : CV RL 122 MX10_idle 2 := ⟨cb_X10_idle, qi_X10_idle, qs_X10_idle, qm_L_122⟩
set_option maxRecDepth 20000 in
theorem cb_X11_idle : CB MX11_idle 2 := ⟨qn_X11, qc_X11_idle, ⟨by decide +kernel, by decide +kernel⟩, by decide +kernel, by decide⟩
set_option maxRecDepth 20000 in
theorem cv_L_125 : CV RL 125 MX11_idle 2 := ⟨cb_X11_idle, qi_X11_idle, qs_X11_idle, qm_L_125⟩
set_option maxRecDepth 20000 in
theorem cb_X10_owed : CB MX10_owed 1 := ⟨qn_X10, qc_X10_owed, ⟨by decide +kernel, by decide +kernel⟩, by decide +kernel, by decide⟩
set_option maxRecDepth 20000 in
theorem cv_L_126 : CV RL 126 MX10_owed 1 := ⟨cb_X10_owed, qi_X10_owed, qs_X10_owed, qm_L_126⟩
set_option maxRecDepth 20000 in
theorem cb_X11_owed : CB MX11_owed 1 := ⟨qn_X11, qc_X11_owed, ⟨by decide +kernel, by decide +kernel⟩, by decide +kernel, by decide⟩
set_option maxRecDepth 20000 in
theorem cv_L_129 : CV RL 129 MX11_owed 1 := ⟨cb_X11_owed, qi_X11_owed, qs_X11_owed, qm_L_129⟩
set_option maxRecDepth 20000 in
theorem cb_X10_would : CB MX10_would 3 := ⟨qn_X10, qc_X10_would, ⟨by decide +kernel, by decide +kernel⟩, by decide +kernel, by decide⟩
set_option maxRecDepth 20000 in
theorem cv_L_130 : CV RL 130 MX10_would 3 := ⟨cb_X10_would, qi_X10_would, qs_X10_would, qm_L_130⟩
set_option maxRecDepth 20000 in
theorem cb_X11_would : CB MX11_would 3 := ⟨qn_X11, qc_X11_would, ⟨by decide +kernel, by decide +kernel⟩, by decide +kernel, by decide⟩
set_option maxRecDepth 20000 in
theorem cv_L_133 : CV RL 133 MX11_would 3 := ⟨cb_X11_would, qi_X11_would, qs_X11_would, qm_L_133⟩
set_option maxRecDepth 20000 in
theorem cb_X10_lapses : CB MX10_lapses 1 := ⟨qn_X10, qc_X10_lapses, ⟨by decide +kernel, by decide +kernel⟩, by decide +kernel, by decide⟩
set_option maxRecDepth 20000 in
theorem cv_L_134 : CV RL 134 MX10_lapses 1 := ⟨cb_X10_lapses, qi_X10_lapses, qs_X10_lapses, qm_L_134⟩
set_option maxRecDepth 20000 in
theorem cb_X11_lapses : CB MX11_lapses 1 := ⟨qn_X11, qc_X11_lapses, ⟨by decide +kernel, by decide +kernel⟩, by decide +kernel, by decide⟩
set_option maxRecDepth 20000 in
theorem cv_L_137 : CV RL 137 MX11_lapses 1 := ⟨cb_X11_lapses, qi_X11_lapses, qs_X11_lapses, qm_L_137⟩
set_option maxRecDepth 20000 in
theorem cb_X10_next : CB MX10_next 1 := ⟨qn_X10, qc_X10_next, ⟨by decide +kernel, by decide +kernel⟩, by decide +kernel, by decide⟩
set_option maxRecDepth 20000 in
theorem cv_L_138 : CV RL 138 MX10_next 1 := ⟨cb_X10_next, qi_X10_next, qs_X10_next, qm_L_138⟩
set_option maxRecDepth 20000 in
theorem cb_X11_next_ : CB MX11_next_ 1 := ⟨qn_X11, qc_X11_next_, ⟨by decide +kernel, by decide +kernel⟩, by decide +kernel, by decide⟩
set_option maxRecDepth 20000 in
theorem cv_L_141 : CV RL 141 MX11_next_ 1 := ⟨cb_X11_next_, qi_X11_next_, qs_X11_next_, qm_L_141⟩
set_option maxRecDepth 20000 in
theorem cb_X10_best : CB MX10_best 3 := ⟨qn_X10, qc_X10_best, ⟨by decide +kernel, by decide +kernel⟩, by decide +kernel, by decide⟩
set_option maxRecDepth 20000 in
theorem cv_L_142 : CV RL 142 MX10_best 3 := ⟨cb_X10_best, qi_X10_best, qs_X10_best, qm_L_142⟩
set_option maxRecDepth 20000 in
theorem cb_X11_best : CB MX11_best 3 := ⟨qn_X11, qc_X11_best, ⟨by decide +kernel, by decide +kernel⟩, by decide +kernel, by decide⟩
set_option maxRecDepth 20000 in
theorem cv_L_145 : CV RL 145 MX11_best 3 := ⟨cb_X11_best, qi_X11_best, qs_X11_best, qm_L_145⟩
set_option maxRecDepth 20000 in
theorem cb_X10_order : CB MX10_order 1 := ⟨qn_X10, qc_X10_order, ⟨by decide +kernel, by decide +kernel⟩, by decide +kernel, by decide⟩
set_option maxRecDepth 20000 in
theorem cv_L_146 : CV RL 146 MX10_order 1 := ⟨cb_X10_order, qi_X10_order, qs_X10_order, qm_L_146⟩
set_option maxRecDepth 20000 in
theorem cb_X11_order : CB MX11_order 1 := ⟨qn_X11, qc_X11_order, ⟨by decide +kernel, by decide +kernel⟩, by decide +kernel, by decide⟩
set_option maxRecDepth 20000 in
theorem cv_L_149 : CV RL 149 MX11_order 1 := ⟨cb_X11_order, qi_X11_order, qs_X11_order, qm_L_149⟩
set_option maxRecDepth 20000 in
theorem cb_X10_focus : CB MX10_focus 1 := ⟨qn_X10, qc_X10_focus, ⟨by decide +kernel, by decide +kernel⟩, by decide +kernel, by decide⟩
set_option maxRecDepth 20000 in
theorem cv_L_150 : CV RL 150 MX10_focus 1 := ⟨cb_X10_focus, qi_X10_focus, qs_X10_focus, qm_L_150⟩
set_option maxRecDepth 20000 in
theorem cb_X11_focus : CB MX11_focus 1 := ⟨qn_X11, qc_X11_focus, ⟨by decide +kernel, by decide +kernel⟩, by decide +kernel, by decide⟩
set_option maxRecDepth 20000 in
theorem cv_L_153 : CV RL 153 MX11_focus 1 := ⟨cb_X11_focus, qi_X11_focus, qs_X11_focus, qm_L_153⟩
set_option maxRecDepth 20000 in
theorem cb_X10_carry : CB MX10_carry 1 := ⟨qn_X10, qc_X10_carry, ⟨by decide +kernel, by decide +kernel⟩, by decide +kernel, by decide⟩
set_option maxRecDepth 20000 in
theorem cv_L_154 : CV RL 154 MX10_carry 1 := ⟨cb_X10_carry, qi_X10_carry, qs_X10_carry, qm_L_154⟩
set_option maxRecDepth 20000 in
theorem cb_X11_carry : CB MX11_carry 1 := ⟨qn_X11, qc_X11_carry, ⟨by decide +kernel, by decide +kernel⟩, by decide +kernel, by decide⟩
set_option maxRecDepth 20000 in
theorem cv_L_157 : CV RL 157 MX11_carry 1 := ⟨cb_X11_carry, qi_X11_carry, qs_X11_carry, qm_L_157⟩
set_option maxRecDepth 20000 in
theorem cb_X10_window : CB MX10_window 0 := ⟨qn_X10, qc_X10_window, ⟨by decide +kernel, by decide +kernel⟩, by decide +kernel, by decide⟩
set_option maxRecDepth 20000 in
theorem cv_L_158 : CV RL 158 MX10_window 0 := ⟨cb_X10_window, qi_X10_window, qs_X10_window, qm_L_158⟩
set_option maxRecDepth 20000 in
theorem cb_X11_window : CB MX11_window 0 := ⟨qn_X11, qc_X11_window, ⟨by decide +kernel, by decide +kernel⟩, by decide +kernel, by decide⟩
set_option maxRecDepth 20000 in
theorem cv_L_161 : CV RL 161 MX11_window 0 := ⟨cb_X11_window, qi_X11_window, qs_X11_window, qm_L_161⟩
set_option maxRecDepth 20000 in
theorem cb_X10_shareAt : CB MX10_shareAt 3 := ⟨qn_X10, qc_X10_shareAt, ⟨by decide +kernel, by decide +kernel⟩, by decide +kernel, by decide⟩
set_option maxRecDepth 20000 in
theorem cv_L_162 : CV RL 162 MX10_shareAt 3 := ⟨cb_X10_shareAt, qi_X10_shareAt, qs_X10_shareAt, qm_L_162⟩
set_option maxRecDepth 20000 in
theorem cb_X11_shareAt : CB MX11_shareAt 3 := ⟨qn_X11, qc_X11_shareAt, ⟨by decide +kernel, by decide +kernel⟩, by decide +kernel, by decide⟩
set_option maxRecDepth 20000 in
theorem cv_L_165 : CV RL 165 MX11_shareAt 3 := ⟨cb_X11_shareAt, qi_X11_shareAt, qs_X11_shareAt, qm_L_165⟩
set_option maxRecDepth 20000 in
theorem cb_X10_speed : CB MX10_speed 1 := ⟨qn_X10, qc_X10_speed, ⟨by decide +kernel, by decide +kernel⟩, by decide +kernel, by decide⟩
set_option maxRecDepth 20000 in
theorem cv_L_166 : CV RL 166 MX10_speed 1 := ⟨cb_X10_speed, qi_X10_speed, qs_X10_speed, qm_L_166⟩
set_option maxRecDepth 20000 in
theorem cb_X11_speed : CB MX11_speed 1 := ⟨qn_X11, qc_X11_speed, ⟨by decide +kernel, by decide +kernel⟩, by decide +kernel, by decide⟩
set_option maxRecDepth 20000 in
theorem cv_L_169 : CV RL 169 MX11_speed 1 := ⟨cb_X11_speed, qi_X11_speed, qs_X11_speed, qm_L_169⟩
set_option maxRecDepth 20000 in
theorem cb_X10_fastest : CB MX10_fastest 1 := ⟨qn_X10, qc_X10_fastest, ⟨by decide +kernel, by decide +kernel⟩, by decide +kernel, by decide⟩
set_option maxRecDepth 20000 in
theorem cv_L_170 : CV RL 170 MX10_fastest 1 := ⟨cb_X10_fastest, qi_X10_fastest, qs_X10_fastest, qm_L_170⟩
set_option maxRecDepth 20000 in
theorem cb_X11_fastest : CB MX11_fastest 1 := ⟨qn_X11, qc_X11_fastest, ⟨by decide +kernel, by decide +kernel⟩, by decide +kernel, by decide⟩
set_option maxRecDepth 20000 in
theorem cv_L_173 : CV RL 173 MX11_fastest 1 := ⟨cb_X11_fastest, qi_X11_fastest, qs_X11_fastest, qm_L_173⟩
set_option maxRecDepth 20000 in
theorem cb_X10_log : CB MX10_log 3 := ⟨qn_X10, qc_X10_log, ⟨by decide +kernel, by decide +kernel⟩, by decide +kernel, by decide⟩
set_option maxRecDepth 20000 in
theorem cv_L_174 : CV RL 174 MX10_log 3 := ⟨cb_X10_log, qi_X10_log, qs_X10_log, qm_L_174⟩
set_option maxRecDepth 20000 in
theorem cb_X11_log : CB MX11_log 3 := ⟨qn_X11, qc_X11_log, ⟨by decide +kernel, by decide +kernel⟩, by decide +kernel, by decide⟩
set_option maxRecDepth 20000 in
theorem cv_L_177 : CV RL 177 MX11_log 3 := ⟨cb_X11_log, qi_X11_log, qs_X11_log, qm_L_177⟩
set_option maxRecDepth 20000 in
theorem cb_X10_risk : CB MX10_risk 1 := ⟨qn_X10, qc_X10_risk, ⟨by decide +kernel, by decide +kernel⟩, by decide +kernel, by decide⟩
set_option maxRecDepth 20000 in
theorem cv_L_178 : CV RL 178 MX10_risk 1 := ⟨cb_X10_risk, qi_X10_risk, qs_X10_risk, qm_L_178⟩
set_option maxRecDepth 20000 in
theorem cb_X11_risk : CB MX11_risk 1 := ⟨qn_X11, qc_X11_risk, ⟨by decide +kernel, by decide +kernel⟩, by decide +kernel, by decide⟩
set_option maxRecDepth 20000 in
theorem cv_L_181 : CV RL 181 MX11_risk 1 := ⟨cb_X11_risk, qi_X11_risk, qs_X11_risk, qm_L_181⟩
set_option maxRecDepth 20000 in
theorem cb_X10_lacks : CB MX10_lacks 3 := ⟨qn_X10, qc_X10_lacks, ⟨by decide +kernel, by decide +kernel⟩, by decide +kernel, by decide⟩
set_option maxRecDepth 20000 in
theorem cv_L_182 : CV RL 182 MX10_lacks 3 := ⟨cb_X10_lacks, qi_X10_lacks, qs_X10_lacks, qm_L_182⟩
set_option maxRecDepth 20000 in
theorem cb_X11_lacks : CB MX11_lacks 3 := ⟨qn_X11, qc_X11_lacks, ⟨by decide +kernel, by decide +kernel⟩, by decide +kernel, by decide⟩
set_option maxRecDepth 20000 in
theorem cv_L_185 : CV RL 185 MX11_lacks 3 := ⟨cb_X11_lacks, qi_X11_lacks, qs_X11_lacks, qm_L_185⟩
set_option maxRecDepth 20000 in
theorem cb_X10_pace : CB MX10_pace 1 := ⟨qn_X10, qc_X10_pace, ⟨by decide +kernel, by decide +kernel⟩, by decide +kernel, by decide⟩
set_option maxRecDepth 20000 in
theorem cv_L_186 : CV RL 186 MX10_pace 1 := ⟨cb_X10_pace, qi_X10_pace, qs_X10_pace, qm_L_186⟩
set_option maxRecDepth 20000 in
theorem cb_X11_pace : CB MX11_pace 1 := ⟨qn_X11, qc_X11_pace, ⟨by decide +kernel, by decide +kernel⟩, by decide +kernel, by decide⟩
set_option maxRecDepth 20000 in
theorem cv_L_189 : CV RL 189 MX11_pace 1 := ⟨cb_X11_pace, qi_X11_pace, qs_X11_pace, qm_L_189⟩
set_option maxRecDepth 20000 in
theorem cb_X10_peak : CB MX10_peak 3 := ⟨qn_X10, qc_X10_peak, ⟨by decide +kernel, by decide +kernel⟩, by decide +kernel, by decide⟩
set_option maxRecDepth 20000 in
theorem cv_L_190 : CV RL 190 MX10_peak 3 := ⟨cb_X10_peak, qi_X10_peak, qs_X10_peak, qm_L_190⟩
set_option maxRecDepth 20000 in
theorem cb_X11_peak : CB MX11_peak 3 := ⟨qn_X11, qc_X11_peak, ⟨by decide +kernel, by decide +kernel⟩, by decide +kernel, by decide⟩
set_option maxRecDepth 20000 in
theorem cv_L_193 : CV RL 193 MX11_peak 3 := ⟨cb_X11_peak, qi_X11_peak, qs_X11_peak, qm_L_193⟩
set_option maxRecDepth 20000 in
theorem cb_X10_even : CB MX10_even 2 := ⟨qn_X10, qc_X10_even, ⟨by decide +kernel, by decide +kernel⟩, by decide +kernel, by decide⟩
set_option maxRecDepth 20000 in
theorem cv_L_194 : CV RL 194 MX10_even 2 := ⟨cb_X10_even, qi_X10_even, qs_X10_even, qm_L_194⟩
set_option maxRecDepth 20000 in
theorem cb_X11_even : CB MX11_even 2 := ⟨qn_X11, qc_X11_even, ⟨by decide +kernel, by decide +kernel⟩, by decide +kernel, by decide⟩
set_option maxRecDepth 20000 in
theorem cv_L_197 : CV RL 197 MX11_even 2 := ⟨cb_X11_even, qi_X11_even, qs_X11_even, qm_L_197⟩
set_option maxRecDepth 20000 in
theorem cb_X10_future : CB MX10_future 2 := ⟨qn_X10, qc_X10_future, ⟨by decide +kernel, by decide +kernel⟩, by decide +kernel, by decide⟩
set_option maxRecDepth 20000 in
theorem cv_L_198 : CV RL 198 MX10_future 2 := ⟨cb_X10_future, qi_X10_future, qs_X10_future, qm_L_198⟩
set_option maxRecDepth 20000 in
theorem cb_X11_future : CB MX11_future 2 := ⟨qn_X11, qc_X11_future, ⟨by decide +kernel, by decide +kernel⟩, by decide +kernel, by decide⟩
set_option maxRecDepth 20000 in
theorem cv_L_201 : CV RL 201 MX11_future 2 := ⟨cb_X11_future, qi_X11_future, qs_X11_future, qm_L_201⟩
set_option maxRecDepth 20000 in
theorem cb_X10_likely : CB MX10_likely 1 := ⟨qn_X10, qc_X10_likely, ⟨by decide +kernel, by decide +kernel⟩, by decide +kernel, by decide⟩
set_option maxRecDepth 20000 in
theorem cv_L_202 : CV RL 202 MX10_likely 1 := ⟨cb_X10_likely, qi_X10_likely, qs_X10_likely, qm_L_202⟩
set_option maxRecDepth 20000 in
theorem cb_X11_likely : CB MX11_likely 1 := ⟨qn_X11, qc_X11_likely, ⟨by decide +kernel, by decide +kernel⟩, by decide +kernel, by decide⟩
set_option maxRecDepth 20000 in
theorem cv_L_205 : CV RL 205 MX11_likely 1 := ⟨cb_X11_likely, qi_X11_likely, qs_X11_likely, qm_L_205⟩
set_option maxRecDepth 20000 in
theorem cb_X10_root : CB MX10_root 2 := ⟨qn_X10, qc_X10_root, ⟨by decide +kernel, by decide +kernel⟩, by decide +kernel, by decide⟩
set_option maxRecDepth 20000 in
theorem cv_L_206 : CV RL 206 MX10_root 2 := ⟨cb_X10_root, qi_X10_root, qs_X10_root, qm_L_206⟩
set_option maxRecDepth 20000 in
theorem cb_X11_root : CB MX11_root 2 := ⟨qn_X11, qc_X11_root, ⟨by decide +kernel, by decide +kernel⟩, by decide +kernel, by decide⟩
set_option maxRecDepth 20000 in
theorem cv_L_209 : CV RL 209 MX11_root 2 := ⟨cb_X11_root, qi_X11_root, qs_X11_root, qm_L_209⟩
set_option maxRecDepth 20000 in
theorem cb_X10_median : CB MX10_median 1 := ⟨qn_X10, qc_X10_median, ⟨by decide +kernel, by decide +kernel⟩, by decide +kernel, by decide⟩
set_option maxRecDepth 20000 in
theorem cv_L_210 : CV RL 210 MX10_median 1 := ⟨cb_X10_median, qi_X10_median, qs_X10_median, qm_L_210⟩
set_option maxRecDepth 20000 in
theorem cb_X11_median : CB MX11_median 1 := ⟨qn_X11, qc_X11_median, ⟨by decide +kernel, by decide +kernel⟩, by decide +kernel, by decide⟩
set_option maxRecDepth 20000 in
theorem cv_L_213 : CV RL 213 MX11_median 1 := ⟨cb_X11_median, qi_X11_median, qs_X11_median, qm_L_213⟩
set_option maxRecDepth 20000 in
theorem cb_X10_rush : CB MX10_rush 3 := ⟨qn_X10, qc_X10_rush, ⟨by decide +kernel, by decide +kernel⟩, by decide +kernel, by decide⟩
set_option maxRecDepth 20000 in
theorem cv_L_214 : CV RL 214 MX10_rush 3 := ⟨cb_X10_rush, qi_X10_rush, qs_X10_rush, qm_L_214⟩
set_option maxRecDepth 20000 in
theorem cb_X11_rush : CB MX11_rush 3 := ⟨qn_X11, qc_X11_rush, ⟨by decide +kernel, by decide +kernel⟩, by decide +kernel, by decide⟩
set_option maxRecDepth 20000 in
theorem cv_L_217 : CV RL 217 MX11_rush 3 := ⟨cb_X11_rush, qi_X11_rush, qs_X11_rush, qm_L_217⟩
set_option maxRecDepth 20000 in
theorem cb_X10_stood : CB MX10_stood 2 := ⟨qn_X10, qc_X10_stood, ⟨by decide +kernel, by decide +kernel⟩, by decide +kernel, by decide⟩
set_option maxRecDepth 20000 in
theorem cv_L_218 : CV RL 218 MX10_stood 2 := ⟨cb_X10_stood, qi_X10_stood, qs_X10_stood, qm_L_218⟩
set_option maxRecDepth 20000 in
theorem cb_X11_stood : CB MX11_stood 2 := ⟨qn_X11, qc_X11_stood, ⟨by decide +kernel, by decide +kernel⟩, by decide +kernel, by decide⟩
set_option maxRecDepth 20000 in
theorem cv_L_221 : CV RL 221 MX11_stood 2 := ⟨cb_X11_stood, qi_X11_stood, qs_X11_stood, qm_L_221⟩
set_option maxRecDepth 20000 in
theorem cb_X10_owing : CB MX10_owing 1 := ⟨qn_X10, qc_X10_owing, ⟨by decide +kernel, by decide +kernel⟩, by decide +kernel, by decide⟩
set_option maxRecDepth 20000 in
theorem cv_L_222 : CV RL 222 MX10_owing 1 := ⟨cb_X10_owing, qi_X10_owing, qs_X10_owing, qm_L_222⟩
set_option maxRecDepth 20000 in
theorem cb_X11_owing : CB MX11_owing 1 := ⟨qn_X11, qc_X11_owing, ⟨by decide +kernel, by decide +kernel⟩, by decide +kernel, by decide⟩
set_option maxRecDepth 20000 in
theorem cv_L_225 : CV RL 225 MX11_owing 1 := ⟨cb_X11_owing, qi_X11_owing, qs_X11_owing, qm_L_225⟩
set_option maxRecDepth 20000 in
theorem cb_X10_holds : CB MX10_holds 2 := ⟨qn_X10, qc_X10_holds, ⟨by decide +kernel, by decide +kernel⟩, by decide +kernel, by decide⟩
set_option maxRecDepth 20000 in
theorem cv_L_226 : CV RL 226 MX10_holds 2 := ⟨cb_X10_holds, qi_X10_holds, qs_X10_holds, qm_L_226⟩
set_option maxRecDepth 20000 in
theorem cb_X11_holds : CB MX11_holds 2 := ⟨qn_X11, qc_X11_holds, ⟨by decide +kernel, by decide +kernel⟩, by decide +kernel, by decide⟩
set_option maxRecDepth 20000 in
theorem cv_L_229 : CV RL 229 MX11_holds 2 := ⟨cb_X11_holds, qi_X11_holds, qs_X11_holds, qm_L_229⟩
set_option maxRecDepth 20000 in
theorem cb_X10_total : CB MX10_total 1 := ⟨qn_X10, qc_X10_total, ⟨by decide +kernel, by decide +kernel⟩, by decide +kernel, by decide⟩
set_option maxRecDepth 20000 in
theorem cv_L_230 : CV RL 230 MX10_total 1 := ⟨cb_X10_total, qi_X10_total, qs_X10_total, qm_L_230⟩
set_option maxRecDepth 20000 in
theorem cb_X11_total : CB MX11_total 1 := ⟨qn_X11, qc_X11_total, ⟨by decide +kernel, by decide +kernel⟩, by decide +kernel, by decide⟩
set_option maxRecDepth 20000 in
theorem cv_L_233 : CV RL 233 MX11_total 1 := ⟨cb_X11_total, qi_X11_total, qs_X11_total, qm_L_233⟩
set_option maxRecDepth 20000 in
theorem cb_X10_row : CB MX10_row 2 := ⟨qn_X10, qc_X10_row, ⟨by decide +kernel, by decide +kernel⟩, by decide +kernel, by decide⟩
set_option maxRecDepth 20000 in
theorem cv_L_234 : CV RL 234 MX10_row 2 := ⟨cb_X10_row, qi_X10_row, qs_X10_row, qm_L_234⟩
set_option maxRecDepth 20000 in
theorem cb_X11_row : CB MX11_row 2 := ⟨qn_X11, qc_X11_row, ⟨by decide +kernel, by decide +kernel⟩, by decide +kernel, by decide⟩
set_option maxRecDepth 20000 in
theorem cv_L_237 : CV RL 237 MX11_row 2 := ⟨cb_X11_row, qi_X11_row, qs_X11_row, qm_L_237⟩
set_option maxRecDepth 20000 in
theorem cb_X10_note : CB MX10_note 3 := ⟨qn_X10, qc_X10_note, ⟨by decide +kernel, by decide +kernel⟩, by decide +kernel, by decide⟩
set_option maxRecDepth 20000 in
theorem cv_L_240 : CV RL 240 MX10_note 3 := ⟨cb_X10_note, qi_X10_note, qs_X10_note, qm_L_240⟩
set_option maxRecDepth 20000 in
theorem cb_X11_note : CB MX11_note 3 := ⟨qn_X11, qc_X11_note, ⟨by decide +kernel, by decide +kernel⟩, by decide +kernel, by decide⟩
set_option maxRecDepth 20000 in
theorem cv_L_244 : CV RL 244 MX11_note 3 := ⟨cb_X11_note, qi_X11_note, qs_X11_note, qm_L_244⟩
set_option maxRecDepth 20000 in
theorem cb_X10_noted : CB MX10_noted 1 := ⟨qn_X10, qc_X10_noted, ⟨by decide +kernel, by decide +kernel⟩, by decide +kernel, by decide⟩
set_option maxRecDepth 20000 in
theorem cv_L_245 : CV RL 245 MX10_noted 1 := ⟨cb_X10_noted, qi_X10_noted, qs_X10_noted, qm_L_245⟩
set_option maxRecDepth 20000 in
theorem cb_X11_noted : CB MX11_noted 1 := ⟨qn_X11, qc_X11_noted, ⟨by decide +kernel, by decide +kernel⟩, by decide +kernel, by decide⟩
set_option maxRecDepth 20000 in
theorem cv_L_248 : CV RL 248 MX11_noted 1 := ⟨cb_X11_noted, qi_X11_noted, qs_X11_noted, qm_L_248⟩
set_option maxRecDepth 20000 in
theorem cb_X10_letter : CB MX10_letter 1 := ⟨qn_X10, qc_X10_letter, ⟨by decide +kernel, by decide +kernel⟩, by decide +kernel, by decide⟩
set_option maxRecDepth 20000 in
theorem cv_L_249 : CV RL 249 MX10_letter 1 := ⟨cb_X10_letter, qi_X10_letter, qs_X10_letter, qm_L_249⟩
set_option maxRecDepth 20000 in
theorem cb_X11_letter : CB MX11_letter 1 := ⟨qn_X11, qc_X11_letter, ⟨by decide +kernel, by decide +kernel⟩, by decide +kernel, by decide⟩
set_option maxRecDepth 20000 in
theorem cv_L_252 : CV RL 252 MX11_letter 1 := ⟨cb_X11_letter, qi_X11_letter, qs_X11_letter, qm_L_252⟩
set_option maxRecDepth 20000 in
theorem cb_X10_count : CB MX10_count 1 := ⟨qn_X10, qc_X10_count, ⟨by decide +kernel, by decide +kernel⟩, by decide +kernel, by decide⟩
set_option maxRecDepth 20000 in
theorem cv_L_253 : CV RL 253 MX10_count 1 := ⟨cb_X10_count, qi_X10_count, qs_X10_count, qm_L_253⟩
set_option maxRecDepth 20000 in
theorem cb_X11_count : CB MX11_count 1 := ⟨qn_X11, qc_X11_count, ⟨by decide +kernel, by decide +kernel⟩, by decide +kernel, by decide⟩
set_option maxRecDepth 20000 in
theorem cv_L_256 : CV RL 256 MX11_count 1 := ⟨cb_X11_count, qi_X11_count, qs_X11_count, qm_L_256⟩
set_option maxRecDepth 20000 in
theorem fg_X11_9 : FG RX11 9 11 0 := ⟨RX11, TX11, 18, rfl, by decide, iw_X11, qf_X11_9⟩
set_option maxRecDepth 20000 in
theorem fp_X11_9 : FP0 RX11 9 11 0 true (.array .long) := ⟨RX11, TX11, 18, tyX11, rfl, by decide, iw_X11, qf_X11_9, tyX11_ok, nmX11, rfl, by decide +kernel, fun _ => rfl⟩
set_option maxRecDepth 20000 in
theorem fg_X11_13 : FG RX11 13 11 1 := ⟨RX11, TX11, 18, rfl, by decide, iw_X11, qf_X11_13⟩
set_option maxRecDepth 20000 in
theorem fp_X11_13 : FP0 RX11 13 11 1 true (.array .long) := ⟨RX11, TX11, 18, tyX11, rfl, by decide, iw_X11, qf_X11_13, tyX11_ok, nmX11, rfl, by decide +kernel, fun _ => rfl⟩
set_option maxRecDepth 20000 in
theorem fg_X11_16 : FG RX11 16 11 2 := ⟨RX11, TX11, 18, rfl, by decide, iw_X11, qf_X11_16⟩
set_option maxRecDepth 20000 in
theorem fp_X11_16 : FP0 RX11 16 11 2 true (.array .long) := ⟨RX11, TX11, 18, tyX11, rfl, by decide, iw_X11, qf_X11_16, tyX11_ok, nmX11, rfl, by decide +kernel, fun _ => rfl⟩
set_option maxRecDepth 20000 in
theorem fg_X11_19 : FG RX11 19 11 3 := ⟨RX11, TX11, 18, rfl, by decide, iw_X11, qf_X11_19⟩
set_option maxRecDepth 20000 in
theorem fp_X11_19 : FP0 RX11 19 11 3 true (.array .long) := ⟨RX11, TX11, 18, tyX11, rfl, by decide, iw_X11, qf_X11_19, tyX11_ok, nmX11, rfl, by decide +kernel, fun _ => rfl⟩
set_option maxRecDepth 20000 in
theorem fg_X11_22 : FG RX11 22 11 4 := ⟨RX11, TX11, 18, rfl, by decide, iw_X11, qf_X11_22⟩
set_option maxRecDepth 20000 in
theorem fp_X11_22 : FP0 RX11 22 11 4 true (.array .long) := ⟨RX11, TX11, 18, tyX11, rfl, by decide, iw_X11, qf_X11_22, tyX11_ok, nmX11, rfl, by decide +kernel, fun _ => rfl⟩
set_option maxRecDepth 20000 in
theorem fg_X11_25 : FG RX11 25 11 5 := ⟨RX11, TX11, 18, rfl, by decide, iw_X11, qf_X11_25⟩
set_option maxRecDepth 20000 in
theorem fp_X11_25 : FP0 RX11 25 11 5 true (.array .boolean) := ⟨RX11, TX11, 18, tyX11, rfl, by decide, iw_X11, qf_X11_25, tyX11_ok, nmX11, rfl, by decide +kernel, fun _ => rfl⟩
set_option maxRecDepth 20000 in
theorem fg_X11_29 : FG RX11 29 11 7 := ⟨RX11, TX11, 18, rfl, by decide, iw_X11, qf_X11_29⟩
set_option maxRecDepth 20000 in
theorem fp_X11_29 : FP0 RX11 29 11 7 true (.array .byte) := ⟨RX11, TX11, 18, tyX11, rfl, by decide, iw_X11, qf_X11_29, tyX11_ok, nmX11, rfl, by decide +kernel, fun _ => rfl⟩
set_option maxRecDepth 20000 in
theorem fg_X11_33 : FG RX11 33 11 12 := ⟨RX11, TX11, 18, rfl, by decide, iw_X11, qf_X11_33⟩
set_option maxRecDepth 20000 in
theorem fp_X11_33 : FP0 RX11 33 11 12 true (.array .long) := ⟨RX11, TX11, 18, tyX11, rfl, by decide, iw_X11, qf_X11_33, tyX11_ok, nmX11, rfl, by decide +kernel, fun _ => rfl⟩
set_option maxRecDepth 20000 in
theorem fg_X11_36 : FG RX11 36 11 13 := ⟨RX11, TX11, 18, rfl, by decide, iw_X11, qf_X11_36⟩
set_option maxRecDepth 20000 in
theorem fp_X11_36 : FP0 RX11 36 11 13 false .int := ⟨RX11, TX11, 18, tyX11, rfl, by decide, iw_X11, qf_X11_36, tyX11_ok, nmX11, rfl, by decide +kernel, fun q => by cases q⟩
set_option maxRecDepth 20000 in
theorem cb_X11_originAt : CB MX11_originAt 2 := ⟨qn_X11, qc_X11_originAt, ⟨by decide +kernel, by decide +kernel⟩, by decide +kernel, by decide⟩
set_option maxRecDepth 20000 in
theorem cs_X11_40 : CS RX11 40 MX11_originAt 2 := ⟨cb_X11_originAt, qt_X11_originAt, qm_X11_40⟩
set_option maxRecDepth 20000 in
theorem cb_X11_pairAt : CB MX11_pairAt 3 := ⟨qn_X11, qc_X11_pairAt, ⟨by decide +kernel, by decide +kernel⟩, by decide +kernel, by decide⟩
set_option maxRecDepth 20000 in
theorem cs_X11_44 : CS RX11 44 MX11_pairAt 3 := ⟨cb_X11_pairAt, qt_X11_pairAt, qm_X11_44⟩
set_option maxRecDepth 20000 in
theorem cb_X11_licenceAt : CB MX11_licenceAt 2 := ⟨qn_X11, qc_X11_licenceAt, ⟨by decide +kernel, by decide +kernel⟩, by decide +kernel, by decide⟩
set_option maxRecDepth 20000 in
theorem cs_X11_48 : CS RX11 48 MX11_licenceAt 2 := ⟨cb_X11_licenceAt, qt_X11_licenceAt, qm_X11_48⟩
set_option maxRecDepth 20000 in
theorem cb_X11_in : CB MX11_in 3 := ⟨qn_X11, qc_X11_in, ⟨by decide +kernel, by decide +kernel⟩, by decide +kernel, by decide⟩
set_option maxRecDepth 20000 in
theorem cs_X11_51 : CS RX11 51 MX11_in 3 := ⟨cb_X11_in, qt_X11_in, qm_X11_51⟩
set_option maxRecDepth 20000 in
theorem cb_X11_isImporter : CB MX11_isImporter 1 := ⟨qn_X11, qc_X11_isImporter, ⟨by decide +kernel, by decide +kernel⟩, by decide +kernel, by decide⟩
set_option maxRecDepth 20000 in
theorem cv_X11_55 : CV RX11 55 MX11_isImporter 1 := ⟨cb_X11_isImporter, qi_X11_isImporter, qs_X11_isImporter, qm_X11_55⟩
set_option maxRecDepth 20000 in
theorem cb_X11_isOrigin : CB MX11_isOrigin 1 := ⟨qn_X11, qc_X11_isOrigin, ⟨by decide +kernel, by decide +kernel⟩, by decide +kernel, by decide⟩
set_option maxRecDepth 20000 in
theorem cv_X11_59 : CV RX11 59 MX11_isOrigin 1 := ⟨cb_X11_isOrigin, qi_X11_isOrigin, qs_X11_isOrigin, qm_X11_59⟩
set_option maxRecDepth 20000 in
theorem fg_X11_64 : FG RX11 64 11 8 := ⟨RX11, TX11, 18, rfl, by decide, iw_X11, qf_X11_64⟩
set_option maxRecDepth 20000 in
theorem fp_X11_64 : FP0 RX11 64 11 8 false .int := ⟨RX11, TX11, 18, tyX11, rfl, by decide, iw_X11, qf_X11_64, tyX11_ok, nmX11, rfl, by decide +kernel, fun q => by cases q⟩
set_option maxRecDepth 20000 in
theorem cb_X11_puts : CB MX11_puts 1 := ⟨qn_X11, qc_X11_puts, ⟨by decide +kernel, by decide +kernel⟩, by decide +kernel, by decide⟩
set_option maxRecDepth 20000 in
theorem cv_X11_67 : CV RX11 67 MX11_puts 1 := ⟨cb_X11_puts, qi_X11_puts, qs_X11_puts, qm_X11_67⟩
set_option maxRecDepth 20000 in
theorem fg_X11_71 : FG RX11 71 11 9 := ⟨RX11, TX11, 18, rfl, by decide, iw_X11, qf_X11_71⟩
set_option maxRecDepth 20000 in
theorem fp_X11_71 : FP0 RX11 71 11 9 false .int := ⟨RX11, TX11, 18, tyX11, rfl, by decide, iw_X11, qf_X11_71, tyX11_ok, nmX11, rfl, by decide +kernel, fun q => by cases q⟩
set_option maxRecDepth 20000 in
theorem cb_X11_sign : CB MX11_sign 0 := ⟨qn_X11, qc_X11_sign, ⟨by decide +kernel, by decide +kernel⟩, by decide +kernel, by decide⟩
set_option maxRecDepth 20000 in
theorem cv_X11_74 : CV RX11 74 MX11_sign 0 := ⟨cb_X11_sign, qi_X11_sign, qs_X11_sign, qm_X11_74⟩
set_option maxRecDepth 20000 in
theorem fg_X11_78 : FG RX11 78 11 10 := ⟨RX11, TX11, 18, rfl, by decide, iw_X11, qf_X11_78⟩
set_option maxRecDepth 20000 in
theorem fp_X11_78 : FP0 RX11 78 11 10 false .int := ⟨RX11, TX11, 18, tyX11, rfl, by decide, iw_X11, qf_X11_78, tyX11_ok, nmX11, rfl, by decide +kernel, fun q => by cases q⟩
set_option maxRecDepth 20000 in
theorem cb_X11_isRight : CB MX11_isRight 0 := ⟨qn_X11, qc_X11_isRight, ⟨by decide +kernel, by decide +kernel⟩, by decide +kernel, by decide⟩
set_option maxRecDepth 20000 in
theorem cv_X11_81 : CV RX11 81 MX11_isRight 0 := ⟨cb_X11_isRight, qi_X11_isRight, qs_X11_isRight, qm_X11_81⟩
set_option maxRecDepth 20000 in
theorem cb_X11_next : CB MX11_next 0 := ⟨qn_X11, qc_X11_next, ⟨by decide +kernel, by decide +kernel⟩, by decide +kernel, by decide⟩
set_option maxRecDepth 20000 in
theorem cv_X11_85 : CV RX11 85 MX11_next 0 := ⟨cb_X11_next, qi_X11_next, qs_X11_next, qm_X11_85⟩
set_option maxRecDepth 20000 in
theorem cv_X11_92 : CV RX11 92 MJ0_length_8abf5 0 := ⟨cb_J0_length_8abf5, qi_J0_length_8abf5, qs_J0_length_8abf5, qm_X11_92⟩
set_option maxRecDepth 20000 in
theorem cv_X11_97 : CV RX11 97 MJ0_charAt_5068e 1 := ⟨cb_J0_charAt_5068e, qi_J0_charAt_5068e, qs_J0_charAt_5068e, qm_X11_97⟩
set_option maxRecDepth 20000 in
theorem cb_X11_isWord : CB MX11_isWord 1 := ⟨qn_X11, qc_X11_isWord, ⟨by decide +kernel, by decide +kernel⟩, by decide +kernel, by decide⟩
set_option maxRecDepth 20000 in
theorem cv_X11_101 : CV RX11 101 MX11_isWord 1 := ⟨cb_X11_isWord, qi_X11_isWord, qs_X11_isWord, qm_X11_101⟩
set_option maxRecDepth 20000 in
theorem cb_X11_fails : CB MX11_fails 2 := ⟨qn_X11, qc_X11_fails, ⟨by decide +kernel, by decide +kernel⟩, by decide +kernel, by decide⟩
set_option maxRecDepth 20000 in
theorem cv_X11_109 : CV RX11 109 MX11_fails 2 := ⟨cb_X11_fails, qi_X11_fails, qs_X11_fails, qm_X11_109⟩
set_option maxRecDepth 20000 in
theorem fg_X11_113 : FG RX11 113 11 11 := ⟨RX11, TX11, 18, rfl, by decide, iw_X11, qf_X11_113⟩
set_option maxRecDepth 20000 in
theorem fp_X11_113 : FP0 RX11 113 11 11 false .int := ⟨RX11, TX11, 18, tyX11, rfl, by decide, iw_X11, qf_X11_113, tyX11_ok, nmX11, rfl, by decide +kernel, fun q => by cases q⟩
set_option maxRecDepth 20000 in
theorem cs_X11_117 : CS RX11 117 MJ9_min_7cf53 2 := ⟨cb_J9_min_7cf53, qt_J9_min_7cf53, qm_X11_117⟩
set_option maxRecDepth 20000 in
theorem cb_X11_truth : CB MX11_truth 1 := ⟨qn_X11, qc_X11_truth, ⟨by decide +kernel, by decide +kernel⟩, by decide +kernel, by decide⟩
set_option maxRecDepth 20000 in
theorem cs_X11_122 : CS RX11 122 MX11_truth 1 := ⟨cb_X11_truth, qt_X11_truth, qm_X11_122⟩
set_option maxRecDepth 20000 in
theorem cb_X11_takes : CB MX11_takes 1 := ⟨qn_X11, qc_X11_takes, ⟨by decide +kernel, by decide +kernel⟩, by decide +kernel, by decide⟩
set_option maxRecDepth 20000 in
theorem cv_X11_135 : CV RX11 135 MX11_takes 1 := ⟨cb_X11_takes, qi_X11_takes, qs_X11_takes, qm_X11_135⟩
set_option maxRecDepth 20000 in
theorem cb_X11_number : CB MX11_number 2 := ⟨qn_X11, qc_X11_number, ⟨by decide +kernel, by decide +kernel⟩, by decide +kernel, by decide⟩
set_option maxRecDepth 20000 in
theorem cv_X11_138 : CV RX11 138 MX11_number 2 := ⟨cb_X11_number, qi_X11_number, qs_X11_number, qm_X11_138⟩
set_option maxRecDepth 20000 in
theorem cb_X11_lowest : CB MX11_lowest 1 := ⟨qn_X11, qc_X11_lowest, ⟨by decide +kernel, by decide +kernel⟩, by decide +kernel, by decide⟩
set_option maxRecDepth 20000 in
theorem cs_X11_144 : CS RX11 144 MX11_lowest 1 := ⟨cb_X11_lowest, qt_X11_lowest, qm_X11_144⟩
set_option maxRecDepth 20000 in
theorem cb_X11_highest : CB MX11_highest 1 := ⟨qn_X11, qc_X11_highest, ⟨by decide +kernel, by decide +kernel⟩, by decide +kernel, by decide⟩
set_option maxRecDepth 20000 in
theorem cs_X11_148 : CS RX11 148 MX11_highest 1 := ⟨cb_X11_highest, qt_X11_highest, qm_X11_148⟩
set_option maxRecDepth 20000 in
theorem cb_X11_readsPiece : CB MX11_readsPiece 0 := ⟨qn_X11, qc_X11_readsPiece, ⟨by decide +kernel, by decide +kernel⟩, by decide +kernel, by decide⟩
set_option maxRecDepth 20000 in
theorem cv_X11_151 : CV RX11 151 MX11_readsPiece 0 := ⟨cb_X11_readsPiece, qi_X11_readsPiece, qs_X11_readsPiece, qm_X11_151⟩
set_option maxRecDepth 20000 in
theorem cb_X11_moves : CB MX11_moves 4 := ⟨qn_X11, qc_X11_moves, ⟨by decide +kernel, by decide +kernel⟩, by decide +kernel, by decide⟩
set_option maxRecDepth 20000 in
theorem cs_X11_154 : CS RX11 154 MX11_moves 4 := ⟨cb_X11_moves, qt_X11_moves, qm_X11_154⟩
set_option maxRecDepth 20000 in
theorem fg_X11_158 : FG RX11 158 11 6 := ⟨RX11, TX11, 18, rfl, by decide, iw_X11, qf_X11_158⟩
set_option maxRecDepth 20000 in
theorem fp_X11_158 : FP0 RX11 158 11 6 false .int := ⟨RX11, TX11, 18, tyX11, rfl, by decide, iw_X11, qf_X11_158, tyX11_ok, nmX11, rfl, by decide +kernel, fun q => by cases q⟩
set_option maxRecDepth 20000 in
theorem cb_X11_periodBegins : CB MX11_periodBegins 0 := ⟨qn_X11, qc_X11_periodBegins, ⟨by decide +kernel, by decide +kernel⟩, by decide +kernel, by decide⟩
set_option maxRecDepth 20000 in
theorem cv_X11_161 : CV RX11 161 MX11_periodBegins 0 := ⟨cb_X11_periodBegins, qi_X11_periodBegins, qs_X11_periodBegins, qm_X11_161⟩
set_option maxRecDepth 20000 in
theorem cb_X11_many : CB MX11_many 1 := ⟨qn_X11, qc_X11_many, ⟨by decide +kernel, by decide +kernel⟩, by decide +kernel, by decide⟩
set_option maxRecDepth 20000 in
theorem cv_X11_164 : CV RX11 164 MX11_many 1 := ⟨cb_X11_many, qi_X11_many, qs_X11_many, qm_X11_164⟩
set_option maxRecDepth 20000 in
theorem cb_X11_ofPair : CB MX11_ofPair 3 := ⟨qn_X11, qc_X11_ofPair, ⟨by decide +kernel, by decide +kernel⟩, by decide +kernel, by decide⟩
set_option maxRecDepth 20000 in
theorem cv_X11_167 : CV RX11 167 MX11_ofPair 3 := ⟨cb_X11_ofPair, qi_X11_ofPair, qs_X11_ofPair, qm_X11_167⟩
set_option maxRecDepth 20000 in
theorem cb_X11_importedOf : CB MX11_importedOf 2 := ⟨qn_X11, qc_X11_importedOf, ⟨by decide +kernel, by decide +kernel⟩, by decide +kernel, by decide⟩
set_option maxRecDepth 20000 in
theorem cv_X11_170 : CV RX11 170 MX11_importedOf 2 := ⟨cb_X11_importedOf, qi_X11_importedOf, qs_X11_importedOf, qm_X11_170⟩
set_option maxRecDepth 20000 in
theorem cb_X11_allImported : CB MX11_allImported 1 := ⟨qn_X11, qc_X11_allImported, ⟨by decide +kernel, by decide +kernel⟩, by decide +kernel, by decide⟩
set_option maxRecDepth 20000 in
theorem cv_X11_176 : CV RX11 176 MX11_allImported 1 := ⟨cb_X11_allImported, qi_X11_allImported, qs_X11_allImported, qm_X11_176⟩
set_option maxRecDepth 20000 in
theorem cb_X11_leaves : CB MX11_leaves 1 := ⟨qn_X11, qc_X11_leaves, ⟨by decide +kernel, by decide +kernel⟩, by decide +kernel, by decide⟩
set_option maxRecDepth 20000 in
theorem cv_X11_182 : CV RX11 182 MX11_leaves 1 := ⟨cb_X11_leaves, qi_X11_leaves, qs_X11_leaves, qm_X11_182⟩
set_option maxRecDepth 20000 in
theorem cb_X11_isTraditional : CB MX11_isTraditional 2 := ⟨qn_X11, qc_X11_isTraditional, ⟨by decide +kernel, by decide +kernel⟩, by decide +kernel, by decide⟩
set_option maxRecDepth 20000 in
theorem cv_X11_185 : CV RX11 185 MX11_isTraditional 2 := ⟨cb_X11_isTraditional, qi_X11_isTraditional, qs_X11_isTraditional, qm_X11_185⟩
set_option maxRecDepth 20000 in
theorem cb_X11_shareBy : CB MX11_shareBy 4 := ⟨qn_X11, qc_X11_shareBy, ⟨by decide +kernel, by decide +kernel⟩, by decide +kernel, by decide⟩
set_option maxRecDepth 20000 in
theorem cv_X11_189 : CV RX11 189 MX11_shareBy 4 := ⟨cb_X11_shareBy, qi_X11_shareBy, qs_X11_shareBy, qm_X11_189⟩
set_option maxRecDepth 20000 in
theorem cb_J9_min_f86c9 : CB MJ9_min_f86c9 2 := ⟨qn_J9, qc_J9_min_f86c9, ⟨by decide +kernel, by decide +kernel⟩, by decide +kernel, by decide⟩
set_option maxRecDepth 20000 in
theorem cs_X11_193 : CS RX11 193 MJ9_min_f86c9 2 := ⟨cb_J9_min_f86c9, qt_J9_min_f86c9, qm_X11_193⟩
set_option maxRecDepth 20000 in
theorem cb_X11_ofLicence : CB MX11_ofLicence 2 := ⟨qn_X11, qc_X11_ofLicence, ⟨by decide +kernel, by decide +kernel⟩, by decide +kernel, by decide⟩
set_option maxRecDepth 20000 in
theorem cv_X11_196 : CV RX11 196 MX11_ofLicence 2 := ⟨cb_X11_ofLicence, qi_X11_ofLicence, qs_X11_ofLicence, qm_X11_196⟩
set_option maxRecDepth 20000 in
theorem cb_X11_isOpen : CB MX11_isOpen 1 := ⟨qn_X11, qc_X11_isOpen, ⟨by decide +kernel, by decide +kernel⟩, by decide +kernel, by decide⟩
set_option maxRecDepth 20000 in
theorem cv_X11_199 : CV RX11 199 MX11_isOpen 1 := ⟨cb_X11_isOpen, qi_X11_isOpen, qs_X11_isOpen, qm_X11_199⟩
set_option maxRecDepth 20000 in
theorem cb_X11_isOf : CB MX11_isOf 3 := ⟨qn_X11, qc_X11_isOf, ⟨by decide +kernel, by decide +kernel⟩, by decide +kernel, by decide⟩
set_option maxRecDepth 20000 in
theorem cv_X11_202 : CV RX11 202 MX11_isOf 3 := ⟨cb_X11_isOf, qi_X11_isOf, qs_X11_isOf, qm_X11_202⟩
set_option maxRecDepth 20000 in
theorem cb_X11_endedLast : CB MX11_endedLast 2 := ⟨qn_X11, qc_X11_endedLast, ⟨by decide +kernel, by decide +kernel⟩, by decide +kernel, by decide⟩
set_option maxRecDepth 20000 in
theorem cv_X11_206 : CV RX11 206 MX11_endedLast 2 := ⟨cb_X11_endedLast, qi_X11_endedLast, qs_X11_endedLast, qm_X11_206⟩
set_option maxRecDepth 20000 in
theorem cb_X11_isIdleBy : CB MX11_isIdleBy 1 := ⟨qn_X11, qc_X11_isIdleBy, ⟨by decide +kernel, by decide +kernel⟩, by decide +kernel, by decide⟩
set_option maxRecDepth 20000 in
theorem cv_X11_209 : CV RX11 209 MX11_isIdleBy 1 := ⟨cb_X11_isIdleBy, qi_X11_isIdleBy, qs_X11_isIdleBy, qm_X11_209⟩
set_option maxRecDepth 20000 in
theorem cb_X11_leftOf : CB MX11_leftOf 1 := ⟨qn_X11, qc_X11_leftOf, ⟨by decide +kernel, by decide +kernel⟩, by decide +kernel, by decide⟩
set_option maxRecDepth 20000 in
theorem cv_X11_214 : CV RX11 214 MX11_leftOf 1 := ⟨cb_X11_leftOf, qi_X11_leftOf, qs_X11_leftOf, qm_X11_214⟩
set_option maxRecDepth 20000 in
theorem cb_X11_isOfThisPeriod : CB MX11_isOfThisPeriod 1 := ⟨qn_X11, qc_X11_isOfThisPeriod, ⟨by decide +kernel, by decide +kernel⟩, by decide +kernel, by decide⟩
set_option maxRecDepth 20000 in
theorem cv_X11_217 : CV RX11 217 MX11_isOfThisPeriod 1 := ⟨cb_X11_isOfThisPeriod, qi_X11_isOfThisPeriod, qs_X11_isOfThisPeriod, qm_X11_217⟩
set_option maxRecDepth 20000 in
theorem cb_X11_ends : CB MX11_ends 2 := ⟨qn_X11, qc_X11_ends, ⟨by decide +kernel, by decide +kernel⟩, by decide +kernel, by decide⟩
set_option maxRecDepth 20000 in
theorem cv_X11_220 : CV RX11 220 MX11_ends 2 := ⟨cb_X11_ends, qi_X11_ends, qs_X11_ends, qm_X11_220⟩
set_option maxRecDepth 20000 in
theorem cb_X11_wasIdle : CB MX11_wasIdle 2 := ⟨qn_X11, qc_X11_wasIdle, ⟨by decide +kernel, by decide +kernel⟩, by decide +kernel, by decide⟩
set_option maxRecDepth 20000 in
theorem cv_X11_223 : CV RX11 223 MX11_wasIdle 2 := ⟨cb_X11_wasIdle, qi_X11_wasIdle, qs_X11_wasIdle, qm_X11_223⟩
set_option maxRecDepth 20000 in
theorem cb_X11_ofOrigin : CB MX11_ofOrigin 2 := ⟨qn_X11, qc_X11_ofOrigin, ⟨by decide +kernel, by decide +kernel⟩, by decide +kernel, by decide⟩
set_option maxRecDepth 20000 in
theorem cv_X11_226 : CV RX11 226 MX11_ofOrigin 2 := ⟨cb_X11_ofOrigin, qi_X11_ofOrigin, qs_X11_ofOrigin, qm_X11_226⟩
set_option maxRecDepth 20000 in
theorem cb_X11_grantable : CB MX11_grantable 3 := ⟨qn_X11, qc_X11_grantable, ⟨by decide +kernel, by decide +kernel⟩, by decide +kernel, by decide⟩
set_option maxRecDepth 20000 in
theorem cv_X11_229 : CV RX11 229 MX11_grantable 3 := ⟨cb_X11_grantable, qi_X11_grantable, qs_X11_grantable, qm_X11_229⟩
set_option maxRecDepth 20000 in
theorem cb_X11_newLicence : CB MX11_newLicence 6 := ⟨qn_X11, qc_X11_newLicence, ⟨by decide +kernel, by decide +kernel⟩, by decide +kernel, by decide⟩
set_option maxRecDepth 20000 in
theorem cv_X11_232 : CV RX11 232 MX11_newLicence 6 := ⟨cb_X11_newLicence, qi_X11_newLicence, qs_X11_newLicence, qm_X11_232⟩
set_option maxRecDepth 20000 in
theorem cb_X11_arePair : CB MX11_arePair 2 := ⟨qn_X11, qc_X11_arePair, ⟨by decide +kernel, by decide +kernel⟩, by decide +kernel, by decide⟩
set_option maxRecDepth 20000 in
theorem cv_X11_236 : CV RX11 236 MX11_arePair 2 := ⟨cb_X11_arePair, qi_X11_arePair, qs_X11_arePair, qm_X11_236⟩
set_option maxRecDepth 20000 in
theorem cb_X11_isMuch : CB MX11_isMuch 1 := ⟨qn_X11, qc_X11_isMuch, ⟨by decide +kernel, by decide +kernel⟩, by decide +kernel, by decide⟩
set_option maxRecDepth 20000 in
theorem cs_X11_239 : CS RX11 239 MX11_isMuch 1 := ⟨cb_X11_isMuch, qt_X11_isMuch, qm_X11_239⟩
set_option maxRecDepth 20000 in
theorem cb_X11_keepsPast : CB MX11_keepsPast 0 := ⟨qn_X11, qc_X11_keepsPast, ⟨by decide +kernel, by decide +kernel⟩, by decide +kernel, by decide⟩
set_option maxRecDepth 20000 in
theorem cv_X11_242 : CV RX11 242 MX11_keepsPast 0 := ⟨cb_X11_keepsPast, qi_X11_keepsPast, qs_X11_keepsPast, qm_X11_242⟩
set_option maxRecDepth 20000 in
theorem cb_X11_issues : CB MX11_issues 3 := ⟨qn_X11, qc_X11_issues, ⟨by decide +kernel, by decide +kernel⟩, by decide +kernel, by decide⟩
set_option maxRecDepth 20000 in
theorem cv_X11_245 : CV RX11 245 MX11_issues 3 := ⟨cb_X11_issues, qi_X11_issues, qs_X11_issues, qm_X11_245⟩
set_option maxRecDepth 20000 in
theorem cb_X11_isLicence : CB MX11_isLicence 1 := ⟨qn_X11, qc_X11_isLicence, ⟨by decide +kernel, by decide +kernel⟩, by decide +kernel, by decide⟩
set_option maxRecDepth 20000 in
theorem cv_X11_248 : CV RX11 248 MX11_isLicence 1 := ⟨cb_X11_isLicence, qi_X11_isLicence, qs_X11_isLicence, qm_X11_248⟩
set_option maxRecDepth 20000 in
theorem cb_X11_comesBack : CB MX11_comesBack 2 := ⟨qn_X11, qc_X11_comesBack, ⟨by decide +kernel, by decide +kernel⟩, by decide +kernel, by decide⟩
set_option maxRecDepth 20000 in
theorem cv_X11_253 : CV RX11 253 MX11_comesBack 2 := ⟨cb_X11_comesBack, qi_X11_comesBack, qs_X11_comesBack, qm_X11_253⟩
set_option maxRecDepth 20000 in
theorem cb_X11_goesOver : CB MX11_goesOver 3 := ⟨qn_X11, qc_X11_goesOver, ⟨by decide +kernel, by decide +kernel⟩, by decide +kernel, by decide⟩
set_option maxRecDepth 20000 in
theorem cv_X11_256 : CV RX11 256 MX11_goesOver 3 := ⟨cb_X11_goesOver, qi_X11_goesOver, qs_X11_goesOver, qm_X11_256⟩
set_option maxRecDepth 20000 in
theorem cb_X11_owedOf : CB MX11_owedOf 1 := ⟨qn_X11, qc_X11_owedOf, ⟨by decide +kernel, by decide +kernel⟩, by decide +kernel, by decide⟩
set_option maxRecDepth 20000 in
theorem cv_X11_272 : CV RX11 272 MX11_owedOf 1 := ⟨cb_X11_owedOf, qi_X11_owedOf, qs_X11_owedOf, qm_X11_272⟩
set_option maxRecDepth 20000 in
theorem cb_Jxe99ae_doubleToLongBits_ccdee : CB MJxe99ae_doubleToLongBits_ccdee 1 := ⟨qn_Jxe99ae, qc_Jxe99ae_doubleToLongBits_ccdee, ⟨by decide +kernel, by decide +kernel⟩, by decide +kernel, by decide⟩
set_option maxRecDepth 20000 in
theorem cs_X11_276 : CS RX11 276 MJxe99ae_doubleToLongBits_ccdee 1 := ⟨cb_Jxe99ae_doubleToLongBits_ccdee, qt_Jxe99ae_doubleToLongBits_ccdee, qm_X11_276⟩
set_option maxRecDepth 20000 in
theorem cb_X11_logs : CB MX11_logs 0 := ⟨qn_X11, qc_X11_logs, ⟨by decide +kernel, by decide +kernel⟩, by decide +kernel, by decide⟩
set_option maxRecDepth 20000 in
theorem cv_X11_280 : CV RX11 280 MX11_logs 0 := ⟨cb_X11_logs, qi_X11_logs, qs_X11_logs, qm_X11_280⟩
set_option maxRecDepth 20000 in
theorem cb_X11_yearBegins : CB MX11_yearBegins 0 := ⟨qn_X11, qc_X11_yearBegins, ⟨by decide +kernel, by decide +kernel⟩, by decide +kernel, by decide⟩
set_option maxRecDepth 20000 in
theorem cv_X11_283 : CV RX11 283 MX11_yearBegins 0 := ⟨cb_X11_yearBegins, qi_X11_yearBegins, qs_X11_yearBegins, qm_X11_283⟩
set_option maxRecDepth 20000 in
theorem cb_X11_hasScheme : CB MX11_hasScheme 0 := ⟨qn_X11, qc_X11_hasScheme, ⟨by decide +kernel, by decide +kernel⟩, by decide +kernel, by decide⟩
set_option maxRecDepth 20000 in
theorem cv_X11_286 : CV RX11 286 MX11_hasScheme 0 := ⟨cb_X11_hasScheme, qi_X11_hasScheme, qs_X11_hasScheme, qm_X11_286⟩
set_option maxRecDepth 20000 in
theorem cb_X11_dayGoes : CB MX11_dayGoes 0 := ⟨qn_X11, qc_X11_dayGoes, ⟨by decide +kernel, by decide +kernel⟩, by decide +kernel, by decide⟩
set_option maxRecDepth 20000 in
theorem cv_X11_291 : CV RX11 291 MX11_dayGoes 0 := ⟨cb_X11_dayGoes, qi_X11_dayGoes, qs_X11_dayGoes, qm_X11_291⟩
set_option maxRecDepth 20000 in
theorem cb_X11_becomes : CB MX11_becomes 2 := ⟨qn_X11, qc_X11_becomes, ⟨by decide +kernel, by decide +kernel⟩, by decide +kernel, by decide⟩
set_option maxRecDepth 20000 in
theorem cv_X11_294 : CV RX11 294 MX11_becomes 2 := ⟨cb_X11_becomes, qi_X11_becomes, qs_X11_becomes, qm_X11_294⟩
set_option maxRecDepth 20000 in
theorem cb_X11_rateOf : CB MX11_rateOf 1 := ⟨qn_X11, qc_X11_rateOf, ⟨by decide +kernel, by decide +kernel⟩, by decide +kernel, by decide⟩
set_option maxRecDepth 20000 in
theorem cv_X11_309 : CV RX11 309 MX11_rateOf 1 := ⟨cb_X11_rateOf, qi_X11_rateOf, qs_X11_rateOf, qm_X11_309⟩
set_option maxRecDepth 20000 in
theorem cb_X11_aheadOf : CB MX11_aheadOf 1 := ⟨qn_X11, qc_X11_aheadOf, ⟨by decide +kernel, by decide +kernel⟩, by decide +kernel, by decide⟩
set_option maxRecDepth 20000 in
theorem cv_X11_312 : CV RX11 312 MX11_aheadOf 1 := ⟨cb_X11_aheadOf, qi_X11_aheadOf, qs_X11_aheadOf, qm_X11_312⟩
set_option maxRecDepth 20000 in
theorem cb_X11_openMany : CB MX11_openMany 0 := ⟨qn_X11, qc_X11_openMany, ⟨by decide +kernel, by decide +kernel⟩, by decide +kernel, by decide⟩
set_option maxRecDepth 20000 in
theorem cv_X11_315 : CV RX11 315 MX11_openMany 0 := ⟨cb_X11_openMany, qi_X11_openMany, qs_X11_openMany, qm_X11_315⟩
set_option maxRecDepth 20000 in
theorem cb_X11_yearOf : CB MX11_yearOf 1 := ⟨qn_X11, qc_X11_yearOf, ⟨by decide +kernel, by decide +kernel⟩, by decide +kernel, by decide⟩
set_option maxRecDepth 20000 in
theorem cv_X11_318 : CV RX11 318 MX11_yearOf 1 := ⟨cb_X11_yearOf, qi_X11_yearOf, qs_X11_yearOf, qm_X11_318⟩
set_option maxRecDepth 20000 in
theorem cb_X11_sumOf : CB MX11_sumOf 3 := ⟨qn_X11, qc_X11_sumOf, ⟨by decide +kernel, by decide +kernel⟩, by decide +kernel, by decide⟩
set_option maxRecDepth 20000 in
theorem cv_X11_323 : CV RX11 323 MX11_sumOf 3 := ⟨cb_X11_sumOf, qi_X11_sumOf, qs_X11_sumOf, qm_X11_323⟩
set_option maxRecDepth 20000 in
theorem cb_J9_max_f86c9 : CB MJ9_max_f86c9 2 := ⟨qn_J9, qc_J9_max_f86c9, ⟨by decide +kernel, by decide +kernel⟩, by decide +kernel, by decide⟩
set_option maxRecDepth 20000 in
theorem cs_X11_327 : CS RX11 327 MJ9_max_f86c9 2 := ⟨cb_J9_max_f86c9, qt_J9_max_f86c9, qm_X11_327⟩
set_option maxRecDepth 20000 in
theorem cb_Jxf58ca_floatToIntBits_5c35a : CB MJxf58ca_floatToIntBits_5c35a 1 := ⟨qn_Jxf58ca, qc_Jxf58ca_floatToIntBits_5c35a, ⟨by decide +kernel, by decide +kernel⟩, by decide +kernel, by decide⟩
set_option maxRecDepth 20000 in
theorem cs_X11_330 : CS RX11 330 MJxf58ca_floatToIntBits_5c35a 1 := ⟨cb_Jxf58ca_floatToIntBits_5c35a, qt_Jxf58ca_floatToIntBits_5c35a, qm_X11_330⟩
set_option maxRecDepth 20000 in
theorem cb_X11_wouldBe : CB MX11_wouldBe 3 := ⟨qn_X11, qc_X11_wouldBe, ⟨by decide +kernel, by decide +kernel⟩, by decide +kernel, by decide⟩
set_option maxRecDepth 20000 in
theorem cv_X11_338 : CV RX11 338 MX11_wouldBe 3 := ⟨cb_X11_wouldBe, qi_X11_wouldBe, qs_X11_wouldBe, qm_X11_338⟩
set_option maxRecDepth 20000 in
theorem cb_X11_wouldCount : CB MX11_wouldCount 2 := ⟨qn_X11, qc_X11_wouldCount, ⟨by decide +kernel, by decide +kernel⟩, by decide +kernel, by decide⟩
set_option maxRecDepth 20000 in
theorem cv_X11_341 : CV RX11 341 MX11_wouldCount 2 := ⟨cb_X11_wouldCount, qi_X11_wouldCount, qs_X11_wouldCount, qm_X11_341⟩
set_option maxRecDepth 20000 in
theorem cb_X11_wouldAll : CB MX11_wouldAll 2 := ⟨qn_X11, qc_X11_wouldAll, ⟨by decide +kernel, by decide +kernel⟩, by decide +kernel, by decide⟩
set_option maxRecDepth 20000 in
theorem cv_X11_344 : CV RX11 344 MX11_wouldAll 2 := ⟨cb_X11_wouldAll, qi_X11_wouldAll, qs_X11_wouldAll, qm_X11_344⟩
set_option maxRecDepth 20000 in
theorem cs_X11_347 : CS RX11 347 MJ9_max_7cf53 2 := ⟨cb_J9_max_7cf53, qt_J9_max_7cf53, qm_X11_347⟩
set_option maxRecDepth 20000 in
theorem fg_X11_353 : FG RX11 353 11 14 := ⟨RX11, TX11, 18, rfl, by decide, iw_X11, qf_X11_353⟩
set_option maxRecDepth 20000 in
theorem fp_X11_353 : FP0 RX11 353 11 14 false .int := ⟨RX11, TX11, 18, tyX11, rfl, by decide, iw_X11, qf_X11_353, tyX11_ok, nmX11, rfl, by decide +kernel, fun q => by cases q⟩
set_option maxRecDepth 20000 in
theorem fg_X11_368 : FG RX11 368 11 15 := ⟨RX11, TX11, 18, rfl, by decide, iw_X11, qf_X11_368⟩
set_option maxRecDepth 20000 in
theorem fp_X11_368 : FP0 RX11 368 11 15 false .int := ⟨RX11, TX11, 18, tyX11, rfl, by decide, iw_X11, qf_X11_368, tyX11_ok, nmX11, rfl, by decide +kernel, fun q => by cases q⟩
set_option maxRecDepth 20000 in
theorem fg_X11_371 : FG RX11 371 11 16 := ⟨RX11, TX11, 18, rfl, by decide, iw_X11, qf_X11_371⟩
set_option maxRecDepth 20000 in
theorem fp_X11_371 : FP0 RX11 371 11 16 false .int := ⟨RX11, TX11, 18, tyX11, rfl, by decide, iw_X11, qf_X11_371, tyX11_ok, nmX11, rfl, by decide +kernel, fun q => by cases q⟩
set_option maxRecDepth 20000 in
theorem fg_X11_374 : FG RX11 374 11 17 := ⟨RX11, TX11, 18, rfl, by decide, iw_X11, qf_X11_374⟩
set_option maxRecDepth 20000 in
theorem fp_X11_374 : FP0 RX11 374 11 17 false .int := ⟨RX11, TX11, 18, tyX11, rfl, by decide, iw_X11, qf_X11_374, tyX11_ok, nmX11, rfl, by decide +kernel, fun q => by cases q⟩
set_option maxRecDepth 20000 in
theorem cb_X11_writes : CB MX11_writes 1 := ⟨qn_X11, qc_X11_writes, ⟨by decide +kernel, by decide +kernel⟩, by decide +kernel, by decide⟩
set_option maxRecDepth 20000 in
theorem cv_X11_377 : CV RX11 377 MX11_writes 1 := ⟨cb_X11_writes, qi_X11_writes, qs_X11_writes, qm_X11_377⟩
set_option maxRecDepth 20000 in
theorem cb_X11_writesDigits : CB MX11_writesDigits 1 := ⟨qn_X11, qc_X11_writesDigits, ⟨by decide +kernel, by decide +kernel⟩, by decide +kernel, by decide⟩
set_option maxRecDepth 20000 in
theorem cv_X11_380 : CV RX11 380 MX11_writesDigits 1 := ⟨cb_X11_writesDigits, qi_X11_writesDigits, qs_X11_writesDigits, qm_X11_380⟩
set_option maxRecDepth 20000 in
theorem cb_X11_writesWord : CB MX11_writesWord 1 := ⟨qn_X11, qc_X11_writesWord, ⟨by decide +kernel, by decide +kernel⟩, by decide +kernel, by decide⟩
set_option maxRecDepth 20000 in
theorem cv_X11_383 : CV RX11 383 MX11_writesWord 1 := ⟨cb_X11_writesWord, qi_X11_writesWord, qs_X11_writesWord, qm_X11_383⟩
set_option maxRecDepth 20000 in
theorem cb_X11_writesNumber : CB MX11_writesNumber 1 := ⟨qn_X11, qc_X11_writesNumber, ⟨by decide +kernel, by decide +kernel⟩, by decide +kernel, by decide⟩
set_option maxRecDepth 20000 in
theorem cv_X11_387 : CV RX11 387 MX11_writesNumber 1 := ⟨cb_X11_writesNumber, qi_X11_writesNumber, qs_X11_writesNumber, qm_X11_387⟩
set_option maxRecDepth 20000 in
theorem cb_X11_writesAll : CB MX11_writesAll 0 := ⟨qn_X11, qc_X11_writesAll, ⟨by decide +kernel, by decide +kernel⟩, by decide +kernel, by decide⟩
set_option maxRecDepth 20000 in
theorem cv_X11_396 : CV RX11 396 MX11_writesAll 0 := ⟨cb_X11_writesAll, qi_X11_writesAll, qs_X11_writesAll, qm_X11_396⟩
set_option maxRecDepth 20000 in
theorem cb_Jxe99ae_isNaN_b9ae7 : CB MJxe99ae_isNaN_b9ae7 1 := ⟨qn_Jxe99ae, qc_Jxe99ae_isNaN_b9ae7, ⟨by decide +kernel, by decide +kernel⟩, by decide +kernel, by decide⟩
set_option maxRecDepth 20000 in
theorem cs_Jxe99ae_122 : CS RJxe99ae 122 MJxe99ae_isNaN_b9ae7 1 := ⟨cb_Jxe99ae_isNaN_b9ae7, qt_Jxe99ae_isNaN_b9ae7, qm_Jxe99ae_122⟩
set_option maxRecDepth 20000 in
theorem cb_Jxf58ca_isNaN_12338 : CB MJxf58ca_isNaN_12338 1 := ⟨qn_Jxf58ca, qc_Jxf58ca_isNaN_12338, ⟨by decide +kernel, by decide +kernel⟩, by decide +kernel, by decide⟩
set_option maxRecDepth 20000 in
theorem cs_Jxf58ca_59 : CS RJxf58ca 59 MJxf58ca_isNaN_12338 1 := ⟨cb_Jxf58ca_isNaN_12338, qt_Jxf58ca_isNaN_12338, qm_Jxf58ca_59⟩
set_option maxRecDepth 20000 in
theorem cb_J0_coder_7d493 : CB MJ0_coder_7d493 0 := ⟨qn_J0, qc_J0_coder_7d493, ⟨by decide +kernel, by decide +kernel⟩, by decide +kernel, by decide⟩
set_option maxRecDepth 20000 in
theorem cv_J0_335 : CV RJ0 335 MJ0_coder_7d493 0 := ⟨cb_J0_coder_7d493, qi_J0_coder_7d493, qs_J0_coder_7d493, qm_J0_335⟩
set_option maxRecDepth 20000 in
theorem cb_J0_isLatin1_aae02 : CB MJ0_isLatin1_aae02 0 := ⟨qn_J0, qc_J0_isLatin1_aae02, ⟨by decide +kernel, by decide +kernel⟩, by decide +kernel, by decide⟩
set_option maxRecDepth 20000 in
theorem cv_J0_492 : CV RJ0 492 MJ0_isLatin1_aae02 0 := ⟨cb_J0_isLatin1_aae02, qi_J0_isLatin1_aae02, qs_J0_isLatin1_aae02, qm_J0_492⟩
set_option maxRecDepth 20000 in
theorem cb_J1_charAt_3b067 : CB MJ1_charAt_3b067 2 := ⟨qn_J1, qc_J1_charAt_3b067, ⟨by decide +kernel, by decide +kernel⟩, by decide +kernel, by decide⟩
set_option maxRecDepth 20000 in
theorem cs_J0_495 : CS RJ0 495 MJ1_charAt_3b067 2 := ⟨cb_J1_charAt_3b067, qt_J1_charAt_3b067, qm_J0_495⟩
set_option maxRecDepth 20000 in
theorem cb_J2_charAt_3b067 : CB MJ2_charAt_3b067 2 := ⟨qn_J2, qc_J2_charAt_3b067, ⟨by decide +kernel, by decide +kernel⟩, by decide +kernel, by decide⟩
set_option maxRecDepth 20000 in
theorem cs_J0_498 : CS RJ0 498 MJ2_charAt_3b067 2 := ⟨cb_J2_charAt_3b067, qt_J2_charAt_3b067, qm_J0_498⟩
set_option maxRecDepth 20000 in
theorem cb_J3_checkIndex_8e157 : CB MJ3_checkIndex_8e157 3 := ⟨qn_J3, qc_J3_checkIndex_8e157, ⟨by decide +kernel, by decide +kernel⟩, by decide +kernel, by decide⟩
set_option maxRecDepth 20000 in
theorem cs_J0_1059 : CS RJ0 1059 MJ3_checkIndex_8e157 3 := ⟨cb_J3_checkIndex_8e157, qt_J3_checkIndex_8e157, qm_J0_1059⟩
set_option maxRecDepth 20000 in
theorem cb_J0_checkIndex_df160 : CB MJ0_checkIndex_df160 2 := ⟨qn_J0, qc_J0_checkIndex_df160, ⟨by decide +kernel, by decide +kernel⟩, by decide +kernel, by decide⟩
set_option maxRecDepth 20000 in
theorem cs_J1_9 : CS RJ1 9 MJ0_checkIndex_df160 2 := ⟨cb_J0_checkIndex_df160, qt_J0_checkIndex_df160, qm_J1_9⟩
set_option maxRecDepth 20000 in
theorem cb_J2_length_9d52b : CB MJ2_length_9d52b 1 := ⟨qn_J2, qc_J2_length_9d52b, ⟨by decide +kernel, by decide +kernel⟩, by decide +kernel, by decide⟩
set_option maxRecDepth 20000 in
theorem cs_J2_48 : CS RJ2 48 MJ2_length_9d52b 1 := ⟨cb_J2_length_9d52b, qt_J2_length_9d52b, qm_J2_48⟩
set_option maxRecDepth 20000 in
theorem cb_J2_checkIndex_2214a : CB MJ2_checkIndex_2214a 2 := ⟨qn_J2, qc_J2_checkIndex_2214a, ⟨by decide +kernel, by decide +kernel⟩, by decide +kernel, by decide⟩
set_option maxRecDepth 20000 in
theorem cs_J2_67 : CS RJ2 67 MJ2_checkIndex_2214a 2 := ⟨cb_J2_checkIndex_2214a, qt_J2_checkIndex_2214a, qm_J2_67⟩
set_option maxRecDepth 20000 in
theorem cb_J2_getChar_3b067 : CB MJ2_getChar_3b067 2 := ⟨qn_J2, qc_J2_getChar_3b067, ⟨by decide +kernel, by decide +kernel⟩, by decide +kernel, by decide⟩
set_option maxRecDepth 20000 in
theorem cs_J2_71 : CS RJ2 71 MJ2_getChar_3b067 2 := ⟨cb_J2_getChar_3b067, qt_J2_getChar_3b067, qm_J2_71⟩
set_option maxRecDepth 20000 in
theorem cs_J2_414 : CS RJ2 414 MJ0_checkIndex_df160 2 := ⟨cb_J0_checkIndex_df160, qt_J0_checkIndex_df160, qm_J2_414⟩
