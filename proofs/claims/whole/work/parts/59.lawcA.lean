set_option maxRecDepth 100000 in
theorem mnL : Cond.initialized RL ∈ lw0 := List.mem_of_getElem? (i := 0) rfl
set_option maxRecDepth 100000 in
theorem mlLm_89 : Cond.methodLink RL 89 yM_choice ∈ lw0 := List.mem_of_getElem? (i := 81) rfl
theorem gLm_choice : GoodIn lw_tbl (wsV RL 89 RM yM_choice wsM_choice) := gVT (Gd_l mlLm_89) (Gd_r miM_choice) (Gd_r meM_choice) (Gd_r mnM) (Gd_cons (Gd_r mcM_choice) (fun _ h => Gd_r h))
set_option maxRecDepth 100000 in
theorem mlLm_97 : Cond.methodLink RL 97 yM_term ∈ lw0 := List.mem_of_getElem? (i := 82) rfl
theorem gLm_term : GoodIn lw_tbl (wsV RL 97 RM yM_term wsM_term) := gVT (Gd_l mlLm_97) (Gd_r miM_term) (Gd_r meM_term) (Gd_r mnM) (Gd_cons (Gd_r mcM_term) (fun _ h => Gd_r h))
set_option maxRecDepth 100000 in
theorem mlLm_101 : Cond.methodLink RL 101 yM_rule ∈ lw0 := List.mem_of_getElem? (i := 83) rfl
theorem gLm_rule : GoodIn lw_tbl (wsV RL 101 RM yM_rule wsM_rule) := gVT (Gd_l mlLm_101) (Gd_r miM_rule) (Gd_r meM_rule) (Gd_r mnM) (Gd_cons (Gd_r mcM_rule) (fun _ h => Gd_r h))
set_option maxRecDepth 100000 in
theorem mlLm_105 : Cond.methodLink RL 105 yM_limit ∈ lw0 := List.mem_of_getElem? (i := 84) rfl
theorem gLm_limit : GoodIn lw_tbl (wsV RL 105 RM yM_limit wsM_limit) := gVT (Gd_l mlLm_105) (Gd_r miM_limit) (Gd_r meM_limit) (Gd_r mnM) (Gd_cons (Gd_r mcM_limit) (fun _ h => Gd_r h))
set_option maxRecDepth 100000 in
theorem mlLm_109 : Cond.methodLink RL 109 yM_number ∈ lw0 := List.mem_of_getElem? (i := 85) rfl
theorem gLm_number : GoodIn lw_tbl (wsV RL 109 RM yM_number wsM_number) := gVT (Gd_l mlLm_109) (Gd_r miM_number) (Gd_r meM_number) (Gd_r mnM) (Gd_cons (Gd_r mcM_number) (fun _ h => Gd_r h))
set_option maxRecDepth 100000 in
theorem mlLm_112 : Cond.methodLink RL 112 yM_value ∈ lw0 := List.mem_of_getElem? (i := 86) rfl
theorem gLm_value : GoodIn lw_tbl (wsV RL 112 RM yM_value wsM_value) := gVT (Gd_l mlLm_112) (Gd_r miM_value) (Gd_r meM_value) (Gd_r mnM) (Gd_cons (Gd_r mcM_value) (fun _ h => Gd_r h))
set_option maxRecDepth 100000 in
theorem mlLm_115 : Cond.methodLink RL 115 yM_legal ∈ lw0 := List.mem_of_getElem? (i := 87) rfl
theorem gLm_legal : GoodIn lw_tbl (wsV RL 115 RM yM_legal wsM_legal) := gVT (Gd_l mlLm_115) (Gd_r miM_legal) (Gd_r meM_legal) (Gd_r mnM) (Gd_cons (Gd_r mcM_legal) (fun _ h => Gd_r h))
set_option maxRecDepth 100000 in
theorem mlLm_118 : Cond.methodLink RL 118 yM_beats ∈ lw0 := List.mem_of_getElem? (i := 88) rfl
theorem gLm_beats : GoodIn lw_tbl (wsV RL 118 RM yM_beats wsM_beats) := gVT (Gd_l mlLm_118) (Gd_r miM_beats) (Gd_r meM_beats) (Gd_r mnM) (Gd_cons (Gd_r mcM_beats) (fun _ h => Gd_r h))
set_option maxRecDepth 100000 in
theorem mlLm_125 : Cond.methodLink RL 125 yM_at ∈ lw0 := List.mem_of_getElem? (i := 90) rfl
theorem gLm_at : GoodIn lw_tbl (wsV RL 125 RM yM_at wsM_at) := gVT (Gd_l mlLm_125) (Gd_r miM_at) (Gd_r meM_at) (Gd_r mnM) (Gd_cons (Gd_r mcM_at) (fun _ h => Gd_r h))
set_option maxRecDepth 100000 in
theorem mlLm_128 : Cond.methodLink RL 128 yM_best ∈ lw0 := List.mem_of_getElem? (i := 91) rfl
theorem gLm_best : GoodIn lw_tbl (wsV RL 128 RM yM_best wsM_best) := gVT (Gd_l mlLm_128) (Gd_r miM_best) (Gd_r meM_best) (Gd_r mnM) (Gd_cons (Gd_r mcM_best) (fun _ h => Gd_r h))
set_option maxRecDepth 100000 in
theorem mlLm_136 : Cond.methodLink RL 136 yM_bound ∈ lw0 := List.mem_of_getElem? (i := 93) rfl
theorem gLm_bound : GoodIn lw_tbl (wsV RL 136 RM yM_bound wsM_bound) := gVT (Gd_l mlLm_136) (Gd_r miM_bound) (Gd_r meM_bound) (Gd_r mnM) (Gd_cons (Gd_r mcM_bound) (fun _ h => Gd_r h))
set_option maxRecDepth 100000 in
theorem mlLm_139 : Cond.methodLink RL 139 yM_near ∈ lw0 := List.mem_of_getElem? (i := 94) rfl
theorem gLm_near : GoodIn lw_tbl (wsV RL 139 RM yM_near wsM_near) := gVT (Gd_l mlLm_139) (Gd_r miM_near) (Gd_r meM_near) (Gd_r mnM) (Gd_cons (Gd_r mcM_near) (fun _ h => Gd_r h))
set_option maxRecDepth 100000 in
theorem mlLm_142 : Cond.methodLink RL 142 yM_slack ∈ lw0 := List.mem_of_getElem? (i := 95) rfl
theorem gLm_slack : GoodIn lw_tbl (wsV RL 142 RM yM_slack wsM_slack) := gVT (Gd_l mlLm_142) (Gd_r miM_slack) (Gd_r meM_slack) (Gd_r mnM) (Gd_cons (Gd_r mcM_slack) (fun _ h => Gd_r h))
set_option maxRecDepth 100000 in
theorem mlLm_145 : Cond.methodLink RL 145 yM_walk ∈ lw0 := List.mem_of_getElem? (i := 96) rfl
theorem gLm_walk : GoodIn lw_tbl (wsV RL 145 RM yM_walk wsM_walk) := gVT (Gd_l mlLm_145) (Gd_r miM_walk) (Gd_r meM_walk) (Gd_r mnM) (Gd_cons (Gd_r mcM_walk) (fun _ h => Gd_r h))
set_option maxRecDepth 100000 in
theorem mlLm_152 : Cond.methodLink RL 152 yM_matters ∈ lw0 := List.mem_of_getElem? (i := 98) rfl
theorem gLm_matters : GoodIn lw_tbl (wsV RL 152 RM yM_matters wsM_matters) := gVT (Gd_l mlLm_152) (Gd_r miM_matters) (Gd_r meM_matters) (Gd_r mnM) (Gd_cons (Gd_r mcM_matters) (fun _ h => Gd_r h))
set_option maxRecDepth 100000 in
theorem mlLm_155 : Cond.methodLink RL 155 yM_sweep ∈ lw0 := List.mem_of_getElem? (i := 99) rfl
theorem gLm_sweep : GoodIn lw_tbl (wsV RL 155 RM yM_sweep wsM_sweep) := gVT (Gd_l mlLm_155) (Gd_r miM_sweep) (Gd_r meM_sweep) (Gd_r mnM) (Gd_cons (Gd_r mcM_sweep) (fun _ h => Gd_r h))
set_option maxRecDepth 100000 in
theorem mlLm_122 : Cond.methodLink RL 122 yM_undominated ∈ lw0 := List.mem_of_getElem? (i := 89) rfl
theorem gLm_undominated : GoodIn lw_tbl (wsV RL 122 RM yM_undominated wsM_undominated) := gVT (Gd_l mlLm_122) (Gd_r miM_undominated) (Gd_r meM_undominated) (Gd_r mnM) (Gd_cons (Gd_r mcM_undominated) (fun _ h => Gd_r h))
set_option maxRecDepth 100000 in
theorem mlLm_132 : Cond.methodLink RL 132 yM_looked ∈ lw0 := List.mem_of_getElem? (i := 92) rfl
theorem gLm_looked : GoodIn lw_tbl (wsV RL 132 RM yM_looked wsM_looked) := gVT (Gd_l mlLm_132) (Gd_r miM_looked) (Gd_r meM_looked) (Gd_r mnM) (Gd_cons (Gd_r mcM_looked) (fun _ h => Gd_r h))
set_option maxRecDepth 100000 in
theorem mlLm_149 : Cond.methodLink RL 149 yM_lowest ∈ lw0 := List.mem_of_getElem? (i := 97) rfl
theorem gLm_lowest : GoodIn lw_tbl (wsV RL 149 RM yM_lowest wsM_lowest) := gVT (Gd_l mlLm_149) (Gd_r miM_lowest) (Gd_r meM_lowest) (Gd_r mnM) (Gd_cons (Gd_r mcM_lowest) (fun _ h => Gd_r h))
set_option maxRecDepth 100000 in
theorem mlLm_159 : Cond.methodLink RL 159 yM_count ∈ lw0 := List.mem_of_getElem? (i := 100) rfl
theorem gLm_count : GoodIn lw_tbl (wsV RL 159 RM yM_count wsM_count) := gVT (Gd_l mlLm_159) (Gd_r miM_count) (Gd_r meM_count) (Gd_r mnM) (Gd_cons (Gd_r mcM_count) (fun _ h => Gd_r h))
set_option maxRecDepth 100000 in
theorem mlLw_86 : Cond.methodLink RL 86 yL_choice ∈ lw0 := List.mem_of_getElem? (i := 10) rfl
set_option maxRecDepth 100000 in
theorem msL_choice : Cond.static yL_choice ∈ lw0 := List.mem_of_getElem? (i := 11) rfl
theorem gLw_choice : GoodIn lw_tbl (va_wsS RL 86 yL_choice wsL_choice) := gST (Gd_l mlLw_86) (Gd_l msL_choice) (Gd_l mnL) (Gd_cons (Gd_l mcL_choice) (fun _ h => Gd_L h))
set_option maxRecDepth 100000 in
theorem mlLw_94 : Cond.methodLink RL 94 yL_term ∈ lw0 := List.mem_of_getElem? (i := 16) rfl
set_option maxRecDepth 100000 in
theorem msL_term : Cond.static yL_term ∈ lw0 := List.mem_of_getElem? (i := 17) rfl
theorem gLw_term : GoodIn lw_tbl (va_wsS RL 94 yL_term wsL_term) := gST (Gd_l mlLw_94) (Gd_l msL_term) (Gd_l mnL) (Gd_cons (Gd_l mcL_term) (fun _ h => Gd_L h))
set_option maxRecDepth 100000 in
theorem mlLw_98 : Cond.methodLink RL 98 yL_rule ∈ lw0 := List.mem_of_getElem? (i := 21) rfl
set_option maxRecDepth 100000 in
theorem msL_rule : Cond.static yL_rule ∈ lw0 := List.mem_of_getElem? (i := 22) rfl
theorem gLw_rule : GoodIn lw_tbl (va_wsS RL 98 yL_rule wsL_rule) := gST (Gd_l mlLw_98) (Gd_l msL_rule) (Gd_l mnL) (Gd_cons (Gd_l mcL_rule) (fun _ h => Gd_L h))
set_option maxRecDepth 100000 in
theorem mlLw_102 : Cond.methodLink RL 102 yL_limit ∈ lw0 := List.mem_of_getElem? (i := 25) rfl
set_option maxRecDepth 100000 in
theorem msL_limit : Cond.static yL_limit ∈ lw0 := List.mem_of_getElem? (i := 26) rfl
theorem gLw_limit : GoodIn lw_tbl (va_wsS RL 102 yL_limit wsL_limit) := gST (Gd_l mlLw_102) (Gd_l msL_limit) (Gd_l mnL) (Gd_cons (Gd_l mcL_limit) (fun _ h => Gd_L h))
set_option maxRecDepth 100000 in
theorem mlLw_106 : Cond.methodLink RL 106 yL_number ∈ lw0 := List.mem_of_getElem? (i := 29) rfl
set_option maxRecDepth 100000 in
theorem msL_number : Cond.static yL_number ∈ lw0 := List.mem_of_getElem? (i := 30) rfl
theorem gLw_number : GoodIn lw_tbl (va_wsS RL 106 yL_number wsL_number) := gST (Gd_l mlLw_106) (Gd_l msL_number) (Gd_l mnL) (Gd_cons (Gd_l mcL_number) (fun _ h => Gd_L h))
set_option maxRecDepth 100000 in
theorem mlLw_110 : Cond.methodLink RL 110 yL_value ∈ lw0 := List.mem_of_getElem? (i := 33) rfl
set_option maxRecDepth 100000 in
theorem msL_value : Cond.static yL_value ∈ lw0 := List.mem_of_getElem? (i := 34) rfl
theorem gLw_value : GoodIn lw_tbl (va_wsS RL 110 yL_value wsL_value) := gST (Gd_l mlLw_110) (Gd_l msL_value) (Gd_l mnL) (Gd_cons (Gd_l mcL_value) (fun _ h => Gd_L h))
set_option maxRecDepth 100000 in
theorem mlLw_113 : Cond.methodLink RL 113 yL_legal ∈ lw0 := List.mem_of_getElem? (i := 37) rfl
set_option maxRecDepth 100000 in
theorem msL_legal : Cond.static yL_legal ∈ lw0 := List.mem_of_getElem? (i := 38) rfl
theorem gLw_legal : GoodIn lw_tbl (va_wsS RL 113 yL_legal wsL_legal) := gST (Gd_l mlLw_113) (Gd_l msL_legal) (Gd_l mnL) (Gd_cons (Gd_l mcL_legal) (fun _ h => Gd_L h))
set_option maxRecDepth 100000 in
theorem mlLw_116 : Cond.methodLink RL 116 yL_beats ∈ lw0 := List.mem_of_getElem? (i := 41) rfl
set_option maxRecDepth 100000 in
theorem msL_beats : Cond.static yL_beats ∈ lw0 := List.mem_of_getElem? (i := 42) rfl
theorem gLw_beats : GoodIn lw_tbl (va_wsS RL 116 yL_beats wsL_beats) := gST (Gd_l mlLw_116) (Gd_l msL_beats) (Gd_l mnL) (Gd_cons (Gd_l mcL_beats) (fun _ h => Gd_L h))
set_option maxRecDepth 100000 in
theorem mlLw_123 : Cond.methodLink RL 123 yL_at ∈ lw0 := List.mem_of_getElem? (i := 45) rfl
set_option maxRecDepth 100000 in
theorem msL_at : Cond.static yL_at ∈ lw0 := List.mem_of_getElem? (i := 46) rfl
theorem gLw_at : GoodIn lw_tbl (va_wsS RL 123 yL_at wsL_at) := gST (Gd_l mlLw_123) (Gd_l msL_at) (Gd_l mnL) (Gd_cons (Gd_l mcL_at) (fun _ h => Gd_L h))
set_option maxRecDepth 100000 in
theorem mlLw_126 : Cond.methodLink RL 126 yL_best ∈ lw0 := List.mem_of_getElem? (i := 49) rfl
set_option maxRecDepth 100000 in
theorem msL_best : Cond.static yL_best ∈ lw0 := List.mem_of_getElem? (i := 50) rfl
theorem gLw_best : GoodIn lw_tbl (va_wsS RL 126 yL_best wsL_best) := gST (Gd_l mlLw_126) (Gd_l msL_best) (Gd_l mnL) (Gd_cons (Gd_l mcL_best) (fun _ h => Gd_L h))
set_option maxRecDepth 100000 in
theorem mlLw_133 : Cond.methodLink RL 133 yL_bound ∈ lw0 := List.mem_of_getElem? (i := 53) rfl
set_option maxRecDepth 100000 in
theorem msL_bound : Cond.static yL_bound ∈ lw0 := List.mem_of_getElem? (i := 54) rfl
theorem gLw_bound : GoodIn lw_tbl (va_wsS RL 133 yL_bound wsL_bound) := gST (Gd_l mlLw_133) (Gd_l msL_bound) (Gd_l mnL) (Gd_cons (Gd_l mcL_bound) (fun _ h => Gd_L h))
set_option maxRecDepth 100000 in
theorem mlLw_137 : Cond.methodLink RL 137 yL_near ∈ lw0 := List.mem_of_getElem? (i := 57) rfl
set_option maxRecDepth 100000 in
theorem msL_near : Cond.static yL_near ∈ lw0 := List.mem_of_getElem? (i := 58) rfl
theorem gLw_near : GoodIn lw_tbl (va_wsS RL 137 yL_near wsL_near) := gST (Gd_l mlLw_137) (Gd_l msL_near) (Gd_l mnL) (Gd_cons (Gd_l mcL_near) (fun _ h => Gd_L h))
set_option maxRecDepth 100000 in
theorem mlLw_140 : Cond.methodLink RL 140 yL_slack ∈ lw0 := List.mem_of_getElem? (i := 61) rfl
set_option maxRecDepth 100000 in
theorem msL_slack : Cond.static yL_slack ∈ lw0 := List.mem_of_getElem? (i := 62) rfl
theorem gLw_slack : GoodIn lw_tbl (va_wsS RL 140 yL_slack wsL_slack) := gST (Gd_l mlLw_140) (Gd_l msL_slack) (Gd_l mnL) (Gd_cons (Gd_l mcL_slack) (fun _ h => Gd_L h))
set_option maxRecDepth 100000 in
theorem mlLw_143 : Cond.methodLink RL 143 yL_walk ∈ lw0 := List.mem_of_getElem? (i := 65) rfl
set_option maxRecDepth 100000 in
theorem msL_walk : Cond.static yL_walk ∈ lw0 := List.mem_of_getElem? (i := 66) rfl
theorem gLw_walk : GoodIn lw_tbl (va_wsS RL 143 yL_walk wsL_walk) := gST (Gd_l mlLw_143) (Gd_l msL_walk) (Gd_l mnL) (Gd_cons (Gd_l mcL_walk) (fun _ h => Gd_L h))
set_option maxRecDepth 100000 in
theorem mlLw_150 : Cond.methodLink RL 150 yL_matters ∈ lw0 := List.mem_of_getElem? (i := 70) rfl
set_option maxRecDepth 100000 in
theorem msL_matters : Cond.static yL_matters ∈ lw0 := List.mem_of_getElem? (i := 71) rfl
theorem gLw_matters : GoodIn lw_tbl (va_wsS RL 150 yL_matters wsL_matters) := gST (Gd_l mlLw_150) (Gd_l msL_matters) (Gd_l mnL) (Gd_cons (Gd_l mcL_matters) (fun _ h => Gd_L h))
set_option maxRecDepth 100000 in
theorem mlLw_153 : Cond.methodLink RL 153 yL_sweep ∈ lw0 := List.mem_of_getElem? (i := 74) rfl
set_option maxRecDepth 100000 in
theorem msL_sweep : Cond.static yL_sweep ∈ lw0 := List.mem_of_getElem? (i := 75) rfl
theorem gLw_sweep : GoodIn lw_tbl (va_wsS RL 153 yL_sweep wsL_sweep) := gST (Gd_l mlLw_153) (Gd_l msL_sweep) (Gd_l mnL) (Gd_cons (Gd_l mcL_sweep) (fun _ h => Gd_L h))
theorem gLx_undominated : GoodIn lw_tbl (wsV RL 119 RX yX_undominated wsX_undominated) := gVT (Gd_l mlL_119) (Gd_c miX_undominated) (Gd_c meX_undominated) (Gd_c mnX) (Gd_cons (Gd_c mcX_undominated) (fun _ h => Gd_c h))
theorem gLx_looked : GoodIn lw_tbl (wsV RL 129 RX yX_looked wsX_looked) := gVT (Gd_l mlL_129) (Gd_c miX_looked) (Gd_c meX_looked) (Gd_c mnX) (Gd_cons (Gd_c mcX_looked) (fun _ h => Gd_c h))
theorem gLx_lowest : GoodIn lw_tbl (wsV RL 146 RX yX_lowest wsX_lowest) := gVT (Gd_l mlL_146) (Gd_c miX_lowest) (Gd_c meX_lowest) (Gd_c mnX) (Gd_cons (Gd_c mcX_lowest) (fun _ h => Gd_c h))
theorem gLx_count : GoodIn lw_tbl (wsV RL 156 RX yX_count wsX_count) := gVT (Gd_l mlL_156) (Gd_c miX_count) (Gd_c meX_count) (Gd_c mnX) (Gd_cons (Gd_c mcX_count) (fun _ h => Gd_c h))
