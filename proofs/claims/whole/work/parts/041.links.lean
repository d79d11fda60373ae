set_option maxRecDepth 100000 in
theorem fl_TB_25 : fl_ok "SheetTrees$Tables" 25 4 0 := ⟨R_TB, F_TB, 5, rfl, by decide, i_TB, Or.inl (tb_at 90 rfl rfl), rfl⟩
set_option maxRecDepth 100000 in
theorem fF_TB_25 : fF_ok "SheetTrees$Tables" 25 4 0 (t_TB 0) := ⟨R_TB, F_TB, 5, t_TB, rfl, by decide, i_TB, tb_at 90 rfl rfl, rfl, rfl, t_TB_ok, n_TB, rfl, rfl⟩
set_option maxRecDepth 100000 in
theorem fl_LY_72 : fl_ok "SheetTrees$Layout" 72 4 0 := ⟨R_TB, F_TB, 5, rfl, by decide, i_TB, Or.inr ⟨"SheetTrees", tb_at 91 rfl rfl⟩, rfl⟩
set_option maxRecDepth 100000 in
theorem fl_TB_11 : fl_ok "SheetTrees$Tables" 11 4 1 := ⟨R_TB, F_TB, 5, rfl, by decide, i_TB, Or.inl (tb_at 92 rfl rfl), rfl⟩
set_option maxRecDepth 100000 in
theorem fF_TB_11 : fF_ok "SheetTrees$Tables" 11 4 1 (t_TB 1) := ⟨R_TB, F_TB, 5, t_TB, rfl, by decide, i_TB, tb_at 92 rfl rfl, rfl, rfl, t_TB_ok, n_TB, rfl, rfl⟩
set_option maxRecDepth 100000 in
theorem fl_TB_15 : fl_ok "SheetTrees$Tables" 15 4 2 := ⟨R_TB, F_TB, 5, rfl, by decide, i_TB, Or.inl (tb_at 93 rfl rfl), rfl⟩
set_option maxRecDepth 100000 in
theorem fF_TB_15 : fF_ok "SheetTrees$Tables" 15 4 2 (t_TB 2) := ⟨R_TB, F_TB, 5, t_TB, rfl, by decide, i_TB, tb_at 93 rfl rfl, rfl, rfl, t_TB_ok, n_TB, rfl, rfl⟩
set_option maxRecDepth 100000 in
theorem fl_TB_18 : fl_ok "SheetTrees$Tables" 18 4 3 := ⟨R_TB, F_TB, 5, rfl, by decide, i_TB, Or.inl (tb_at 94 rfl rfl), rfl⟩
set_option maxRecDepth 100000 in
theorem fp_TB_18 : fp_ok "SheetTrees$Tables" 18 4 3 (t_TB 3) := ⟨R_TB, F_TB, 5, t_TB, rfl, by decide, i_TB, Or.inl (tb_at 94 rfl rfl), rfl, rfl, t_TB_ok, n_TB, rfl⟩
set_option maxRecDepth 100000 in
theorem fl_ST_286 : fl_ok "SheetTrees" 286 4 3 := ⟨R_TB, F_TB, 5, rfl, by decide, i_TB, Or.inr ⟨"SheetTrees", tb_at 95 rfl rfl⟩, rfl⟩
set_option maxRecDepth 100000 in
theorem fl_TB_22 : fl_ok "SheetTrees$Tables" 22 4 4 := ⟨R_TB, F_TB, 5, rfl, by decide, i_TB, Or.inl (tb_at 96 rfl rfl), rfl⟩
set_option maxRecDepth 100000 in
theorem fp_TB_22 : fp_ok "SheetTrees$Tables" 22 4 4 (t_TB 4) := ⟨R_TB, F_TB, 5, t_TB, rfl, by decide, i_TB, Or.inl (tb_at 96 rfl rfl), rfl, rfl, t_TB_ok, n_TB, rfl⟩
set_option maxRecDepth 100000 in
theorem fl_LY_31 : fl_ok "SheetTrees$Layout" 31 1 0 := ⟨R_LY, F_LY, 7, rfl, by decide, i_LY, Or.inl (tb_at 115 rfl rfl), rfl⟩
set_option maxRecDepth 100000 in
theorem fF_LY_31 : fF_ok "SheetTrees$Layout" 31 1 0 (t_LY 0) := ⟨R_LY, F_LY, 7, t_LY, rfl, by decide, i_LY, tb_at 115 rfl rfl, rfl, rfl, t_LY_ok, n_LY, rfl, rfl⟩
set_option maxRecDepth 100000 in
theorem fl_LY_9 : fl_ok "SheetTrees$Layout" 9 1 1 := ⟨R_LY, F_LY, 7, rfl, by decide, i_LY, Or.inl (tb_at 116 rfl rfl), rfl⟩
set_option maxRecDepth 100000 in
theorem fF_LY_9 : fF_ok "SheetTrees$Layout" 9 1 1 (t_LY 1) := ⟨R_LY, F_LY, 7, t_LY, rfl, by decide, i_LY, tb_at 116 rfl rfl, rfl, rfl, t_LY_ok, n_LY, rfl, rfl⟩
set_option maxRecDepth 100000 in
theorem fl_ST_272 : fl_ok "SheetTrees" 272 1 1 := ⟨R_LY, F_LY, 7, rfl, by decide, i_LY, Or.inr ⟨"SheetTrees", tb_at 117 rfl rfl⟩, rfl⟩
set_option maxRecDepth 100000 in
theorem fl_LY_15 : fl_ok "SheetTrees$Layout" 15 1 2 := ⟨R_LY, F_LY, 7, rfl, by decide, i_LY, Or.inl (tb_at 118 rfl rfl), rfl⟩
set_option maxRecDepth 100000 in
theorem fF_LY_15 : fF_ok "SheetTrees$Layout" 15 1 2 (t_LY 2) := ⟨R_LY, F_LY, 7, t_LY, rfl, by decide, i_LY, tb_at 118 rfl rfl, rfl, rfl, t_LY_ok, n_LY, rfl, rfl⟩
set_option maxRecDepth 100000 in
theorem fl_LY_18 : fl_ok "SheetTrees$Layout" 18 1 3 := ⟨R_LY, F_LY, 7, rfl, by decide, i_LY, Or.inl (tb_at 119 rfl rfl), rfl⟩
set_option maxRecDepth 100000 in
theorem fp_LY_18 : fp_ok "SheetTrees$Layout" 18 1 3 (t_LY 3) := ⟨R_LY, F_LY, 7, t_LY, rfl, by decide, i_LY, Or.inl (tb_at 119 rfl rfl), rfl, rfl, t_LY_ok, n_LY, rfl⟩
set_option maxRecDepth 100000 in
theorem fl_ST_269 : fl_ok "SheetTrees" 269 1 3 := ⟨R_LY, F_LY, 7, rfl, by decide, i_LY, Or.inr ⟨"SheetTrees", tb_at 120 rfl rfl⟩, rfl⟩
set_option maxRecDepth 100000 in
theorem fl_LY_22 : fl_ok "SheetTrees$Layout" 22 1 4 := ⟨R_LY, F_LY, 7, rfl, by decide, i_LY, Or.inl (tb_at 121 rfl rfl), rfl⟩
set_option maxRecDepth 100000 in
theorem fp_LY_22 : fp_ok "SheetTrees$Layout" 22 1 4 (t_LY 4) := ⟨R_LY, F_LY, 7, t_LY, rfl, by decide, i_LY, Or.inl (tb_at 121 rfl rfl), rfl, rfl, t_LY_ok, n_LY, rfl⟩
set_option maxRecDepth 100000 in
theorem fl_CS_55 : fl_ok "SheetTrees$CutSheet" 55 1 4 := ⟨R_LY, F_LY, 7, rfl, by decide, i_LY, Or.inr ⟨"SheetTrees", tb_at 122 rfl rfl⟩, rfl⟩
set_option maxRecDepth 100000 in
theorem fl_LY_25 : fl_ok "SheetTrees$Layout" 25 1 5 := ⟨R_LY, F_LY, 7, rfl, by decide, i_LY, Or.inl (tb_at 123 rfl rfl), rfl⟩
set_option maxRecDepth 100000 in
theorem fp_LY_25 : fp_ok "SheetTrees$Layout" 25 1 5 (t_LY 5) := ⟨R_LY, F_LY, 7, t_LY, rfl, by decide, i_LY, Or.inl (tb_at 123 rfl rfl), rfl, rfl, t_LY_ok, n_LY, rfl⟩
set_option maxRecDepth 100000 in
theorem fl_CS_58 : fl_ok "SheetTrees$CutSheet" 58 1 5 := ⟨R_LY, F_LY, 7, rfl, by decide, i_LY, Or.inr ⟨"SheetTrees", tb_at 124 rfl rfl⟩, rfl⟩
set_option maxRecDepth 100000 in
theorem fl_LY_28 : fl_ok "SheetTrees$Layout" 28 1 6 := ⟨R_LY, F_LY, 7, rfl, by decide, i_LY, Or.inl (tb_at 125 rfl rfl), rfl⟩
set_option maxRecDepth 100000 in
theorem fp_LY_28 : fp_ok "SheetTrees$Layout" 28 1 6 (t_LY 6) := ⟨R_LY, F_LY, 7, t_LY, rfl, by decide, i_LY, Or.inl (tb_at 125 rfl rfl), rfl, rfl, t_LY_ok, n_LY, rfl⟩
set_option maxRecDepth 100000 in
theorem fl_CS_59 : fl_ok "SheetTrees$CutSheet" 59 1 6 := ⟨R_LY, F_LY, 7, rfl, by decide, i_LY, Or.inr ⟨"SheetTrees", tb_at 126 rfl rfl⟩, rfl⟩
set_option maxRecDepth 100000 in
theorem fl_SH_7 : fl_ok "SheetTrees$Sheet" 7 3 0 := ⟨R_SH, F_SH, 5, rfl, by decide, i_SH, Or.inl (tb_at 147 rfl rfl), rfl⟩
set_option maxRecDepth 100000 in
theorem fp_SH_7 : fp_ok "SheetTrees$Sheet" 7 3 0 (t_SH 0) := ⟨R_SH, F_SH, 5, t_SH, rfl, by decide, i_SH, Or.inl (tb_at 147 rfl rfl), rfl, rfl, t_SH_ok, n_SH, rfl⟩
set_option maxRecDepth 100000 in
theorem fl_LY_41 : fl_ok "SheetTrees$Layout" 41 3 0 := ⟨R_SH, F_SH, 5, rfl, by decide, i_SH, Or.inr ⟨"SheetTrees", tb_at 148 rfl rfl⟩, rfl⟩
set_option maxRecDepth 100000 in
theorem fp_ST_109 : fp_ok "SheetTrees" 109 3 0 (t_SH 0) := ⟨R_SH, F_SH, 5, t_SH, rfl, by decide, i_SH, Or.inr ⟨"SheetTrees", tb_at 149 rfl rfl⟩, rfl, rfl, t_SH_ok, n_SH, rfl⟩
set_option maxRecDepth 100000 in
theorem fl_SH_13 : fl_ok "SheetTrees$Sheet" 13 3 1 := ⟨R_SH, F_SH, 5, rfl, by decide, i_SH, Or.inl (tb_at 150 rfl rfl), rfl⟩
set_option maxRecDepth 100000 in
theorem fp_SH_13 : fp_ok "SheetTrees$Sheet" 13 3 1 (t_SH 1) := ⟨R_SH, F_SH, 5, t_SH, rfl, by decide, i_SH, Or.inl (tb_at 150 rfl rfl), rfl, rfl, t_SH_ok, n_SH, rfl⟩
set_option maxRecDepth 100000 in
theorem fl_LY_46 : fl_ok "SheetTrees$Layout" 46 3 1 := ⟨R_SH, F_SH, 5, rfl, by decide, i_SH, Or.inr ⟨"SheetTrees", tb_at 151 rfl rfl⟩, rfl⟩
set_option maxRecDepth 100000 in
theorem fp_ST_112 : fp_ok "SheetTrees" 112 3 1 (t_SH 1) := ⟨R_SH, F_SH, 5, t_SH, rfl, by decide, i_SH, Or.inr ⟨"SheetTrees", tb_at 152 rfl rfl⟩, rfl, rfl, t_SH_ok, n_SH, rfl⟩
set_option maxRecDepth 100000 in
theorem fp_SH_16 : fp_ok "SheetTrees$Sheet" 16 3 2 (t_SH 2) := ⟨R_SH, F_SH, 5, t_SH, rfl, by decide, i_SH, Or.inl (tb_at 153 rfl rfl), rfl, rfl, t_SH_ok, n_SH, rfl⟩
set_option maxRecDepth 100000 in
theorem fl_CS_49 : fl_ok "SheetTrees$CutSheet" 49 3 2 := ⟨R_SH, F_SH, 5, rfl, by decide, i_SH, Or.inr ⟨"SheetTrees", tb_at 154 rfl rfl⟩, rfl⟩
set_option maxRecDepth 100000 in
theorem fl_ST_115 : fl_ok "SheetTrees" 115 3 2 := ⟨R_SH, F_SH, 5, rfl, by decide, i_SH, Or.inr ⟨"SheetTrees", tb_at 155 rfl rfl⟩, rfl⟩
set_option maxRecDepth 100000 in
theorem fp_ST_115 : fp_ok "SheetTrees" 115 3 2 (t_SH 2) := ⟨R_SH, F_SH, 5, t_SH, rfl, by decide, i_SH, Or.inr ⟨"SheetTrees", tb_at 155 rfl rfl⟩, rfl, rfl, t_SH_ok, n_SH, rfl⟩
set_option maxRecDepth 100000 in
theorem fp_SH_19 : fp_ok "SheetTrees$Sheet" 19 3 3 (t_SH 3) := ⟨R_SH, F_SH, 5, t_SH, rfl, by decide, i_SH, Or.inl (tb_at 156 rfl rfl), rfl, rfl, t_SH_ok, n_SH, rfl⟩
set_option maxRecDepth 100000 in
theorem fl_ST_118 : fl_ok "SheetTrees" 118 3 3 := ⟨R_SH, F_SH, 5, rfl, by decide, i_SH, Or.inr ⟨"SheetTrees", tb_at 157 rfl rfl⟩, rfl⟩
set_option maxRecDepth 100000 in
theorem fp_ST_118 : fp_ok "SheetTrees" 118 3 3 (t_SH 3) := ⟨R_SH, F_SH, 5, t_SH, rfl, by decide, i_SH, Or.inr ⟨"SheetTrees", tb_at 157 rfl rfl⟩, rfl, rfl, t_SH_ok, n_SH, rfl⟩
set_option maxRecDepth 100000 in
theorem fp_SH_22 : fp_ok "SheetTrees$Sheet" 22 3 4 (t_SH 4) := ⟨R_SH, F_SH, 5, t_SH, rfl, by decide, i_SH, Or.inl (tb_at 158 rfl rfl), rfl, rfl, t_SH_ok, n_SH, rfl⟩
set_option maxRecDepth 100000 in
theorem fl_ST_247 : fl_ok "SheetTrees" 247 3 4 := ⟨R_SH, F_SH, 5, rfl, by decide, i_SH, Or.inr ⟨"SheetTrees", tb_at 159 rfl rfl⟩, rfl⟩
set_option maxRecDepth 100000 in
theorem fp_ST_247 : fp_ok "SheetTrees" 247 3 4 (t_SH 4) := ⟨R_SH, F_SH, 5, t_SH, rfl, by decide, i_SH, Or.inr ⟨"SheetTrees", tb_at 159 rfl rfl⟩, rfl, rfl, t_SH_ok, n_SH, rfl⟩
set_option maxRecDepth 100000 in
theorem fl_PA_7 : fl_ok "SheetTrees$Part" 7 2 0 := ⟨R_PA, F_PA, 5, rfl, by decide, i_PA, Or.inl (tb_at 176 rfl rfl), rfl⟩
set_option maxRecDepth 100000 in
theorem fp_PA_7 : fp_ok "SheetTrees$Part" 7 2 0 (t_PA 0) := ⟨R_PA, F_PA, 5, t_PA, rfl, by decide, i_PA, Or.inl (tb_at 176 rfl rfl), rfl, rfl, t_PA_ok, n_PA, rfl⟩
set_option maxRecDepth 100000 in
theorem fp_ST_125 : fp_ok "SheetTrees" 125 2 0 (t_PA 0) := ⟨R_PA, F_PA, 5, t_PA, rfl, by decide, i_PA, Or.inr ⟨"SheetTrees", tb_at 177 rfl rfl⟩, rfl, rfl, t_PA_ok, n_PA, rfl⟩
set_option maxRecDepth 100000 in
theorem fl_TB_56 : fl_ok "SheetTrees$Tables" 56 2 0 := ⟨R_PA, F_PA, 5, rfl, by decide, i_PA, Or.inr ⟨"SheetTrees", tb_at 178 rfl rfl⟩, rfl⟩
set_option maxRecDepth 100000 in
theorem fl_PA_13 : fl_ok "SheetTrees$Part" 13 2 1 := ⟨R_PA, F_PA, 5, rfl, by decide, i_PA, Or.inl (tb_at 179 rfl rfl), rfl⟩
set_option maxRecDepth 100000 in
theorem fp_PA_13 : fp_ok "SheetTrees$Part" 13 2 1 (t_PA 1) := ⟨R_PA, F_PA, 5, t_PA, rfl, by decide, i_PA, Or.inl (tb_at 179 rfl rfl), rfl, rfl, t_PA_ok, n_PA, rfl⟩
set_option maxRecDepth 100000 in
theorem fp_ST_126 : fp_ok "SheetTrees" 126 2 1 (t_PA 1) := ⟨R_PA, F_PA, 5, t_PA, rfl, by decide, i_PA, Or.inr ⟨"SheetTrees", tb_at 180 rfl rfl⟩, rfl, rfl, t_PA_ok, n_PA, rfl⟩
set_option maxRecDepth 100000 in
theorem fl_TB_61 : fl_ok "SheetTrees$Tables" 61 2 1 := ⟨R_PA, F_PA, 5, rfl, by decide, i_PA, Or.inr ⟨"SheetTrees", tb_at 181 rfl rfl⟩, rfl⟩
set_option maxRecDepth 100000 in
theorem fp_PA_16 : fp_ok "SheetTrees$Part" 16 2 2 (t_PA 2) := ⟨R_PA, F_PA, 5, t_PA, rfl, by decide, i_PA, Or.inl (tb_at 182 rfl rfl), rfl, rfl, t_PA_ok, n_PA, rfl⟩
set_option maxRecDepth 100000 in
theorem fp_ST_127 : fp_ok "SheetTrees" 127 2 2 (t_PA 2) := ⟨R_PA, F_PA, 5, t_PA, rfl, by decide, i_PA, Or.inr ⟨"SheetTrees", tb_at 183 rfl rfl⟩, rfl, rfl, t_PA_ok, n_PA, rfl⟩
set_option maxRecDepth 100000 in
theorem fl_TB_68 : fl_ok "SheetTrees$Tables" 68 2 2 := ⟨R_PA, F_PA, 5, rfl, by decide, i_PA, Or.inr ⟨"SheetTrees", tb_at 184 rfl rfl⟩, rfl⟩
set_option maxRecDepth 100000 in
theorem fp_PA_20 : fp_ok "SheetTrees$Part" 20 2 3 (t_PA 3) := ⟨R_PA, F_PA, 5, t_PA, rfl, by decide, i_PA, Or.inl (tb_at 185 rfl rfl), rfl, rfl, t_PA_ok, n_PA, rfl⟩
set_option maxRecDepth 100000 in
theorem fl_ST_130 : fl_ok "SheetTrees" 130 2 3 := ⟨R_PA, F_PA, 5, rfl, by decide, i_PA, Or.inr ⟨"SheetTrees", tb_at 186 rfl rfl⟩, rfl⟩
set_option maxRecDepth 100000 in
theorem fp_ST_130 : fp_ok "SheetTrees" 130 2 3 (t_PA 3) := ⟨R_PA, F_PA, 5, t_PA, rfl, by decide, i_PA, Or.inr ⟨"SheetTrees", tb_at 186 rfl rfl⟩, rfl, rfl, t_PA_ok, n_PA, rfl⟩
set_option maxRecDepth 100000 in
theorem fp_PA_23 : fp_ok "SheetTrees$Part" 23 2 4 (t_PA 4) := ⟨R_PA, F_PA, 5, t_PA, rfl, by decide, i_PA, Or.inl (tb_at 187 rfl rfl), rfl, rfl, t_PA_ok, n_PA, rfl⟩
set_option maxRecDepth 100000 in
theorem fl_LY_75 : fl_ok "SheetTrees$Layout" 75 2 4 := ⟨R_PA, F_PA, 5, rfl, by decide, i_PA, Or.inr ⟨"SheetTrees", tb_at 188 rfl rfl⟩, rfl⟩
set_option maxRecDepth 100000 in
theorem fl_ST_221 : fl_ok "SheetTrees" 221 2 4 := ⟨R_PA, F_PA, 5, rfl, by decide, i_PA, Or.inr ⟨"SheetTrees", tb_at 189 rfl rfl⟩, rfl⟩
set_option maxRecDepth 100000 in
theorem fp_ST_221 : fp_ok "SheetTrees" 221 2 4 (t_PA 4) := ⟨R_PA, F_PA, 5, t_PA, rfl, by decide, i_PA, Or.inr ⟨"SheetTrees", tb_at 189 rfl rfl⟩, rfl, rfl, t_PA_ok, n_PA, rfl⟩
set_option maxRecDepth 100000 in
theorem fp_CS_7 : fp_ok "SheetTrees$CutSheet" 7 0 0 (t_CS 0) := ⟨R_CS, F_CS, 13, t_CS, rfl, by decide, i_CS, Or.inl (tb_at 206 rfl rfl), rfl, rfl, t_CS_ok, n_CS, rfl⟩
set_option maxRecDepth 100000 in
theorem fl_ST_169 : fl_ok "SheetTrees" 169 0 0 := ⟨R_CS, F_CS, 13, rfl, by decide, i_CS, Or.inr ⟨"SheetTrees", tb_at 207 rfl rfl⟩, rfl⟩
set_option maxRecDepth 100000 in
theorem fp_CS_13 : fp_ok "SheetTrees$CutSheet" 13 0 1 (t_CS 1) := ⟨R_CS, F_CS, 13, t_CS, rfl, by decide, i_CS, Or.inl (tb_at 208 rfl rfl), rfl, rfl, t_CS_ok, n_CS, rfl⟩
set_option maxRecDepth 100000 in
theorem fl_ST_226 : fl_ok "SheetTrees" 226 0 1 := ⟨R_CS, F_CS, 13, rfl, by decide, i_CS, Or.inr ⟨"SheetTrees", tb_at 209 rfl rfl⟩, rfl⟩
set_option maxRecDepth 100000 in
theorem fp_CS_16 : fp_ok "SheetTrees$CutSheet" 16 0 2 (t_CS 2) := ⟨R_CS, F_CS, 13, t_CS, rfl, by decide, i_CS, Or.inl (tb_at 210 rfl rfl), rfl, rfl, t_CS_ok, n_CS, rfl⟩
set_option maxRecDepth 100000 in
theorem fl_ST_227 : fl_ok "SheetTrees" 227 0 2 := ⟨R_CS, F_CS, 13, rfl, by decide, i_CS, Or.inr ⟨"SheetTrees", tb_at 211 rfl rfl⟩, rfl⟩
set_option maxRecDepth 100000 in
theorem fp_CS_19 : fp_ok "SheetTrees$CutSheet" 19 0 3 (t_CS 3) := ⟨R_CS, F_CS, 13, t_CS, rfl, by decide, i_CS, Or.inl (tb_at 212 rfl rfl), rfl, rfl, t_CS_ok, n_CS, rfl⟩
set_option maxRecDepth 100000 in
theorem fl_ST_179 : fl_ok "SheetTrees" 179 0 3 := ⟨R_CS, F_CS, 13, rfl, by decide, i_CS, Or.inr ⟨"SheetTrees", tb_at 213 rfl rfl⟩, rfl⟩
set_option maxRecDepth 100000 in
theorem fp_CS_22 : fp_ok "SheetTrees$CutSheet" 22 0 4 (t_CS 4) := ⟨R_CS, F_CS, 13, t_CS, rfl, by decide, i_CS, Or.inl (tb_at 214 rfl rfl), rfl, rfl, t_CS_ok, n_CS, rfl⟩
set_option maxRecDepth 100000 in
theorem fl_ST_176 : fl_ok "SheetTrees" 176 0 4 := ⟨R_CS, F_CS, 13, rfl, by decide, i_CS, Or.inr ⟨"SheetTrees", tb_at 215 rfl rfl⟩, rfl⟩
set_option maxRecDepth 100000 in
theorem fp_CS_25 : fp_ok "SheetTrees$CutSheet" 25 0 5 (t_CS 5) := ⟨R_CS, F_CS, 13, t_CS, rfl, by decide, i_CS, Or.inl (tb_at 216 rfl rfl), rfl, rfl, t_CS_ok, n_CS, rfl⟩
set_option maxRecDepth 100000 in
theorem fl_ST_182 : fl_ok "SheetTrees" 182 0 5 := ⟨R_CS, F_CS, 13, rfl, by decide, i_CS, Or.inr ⟨"SheetTrees", tb_at 217 rfl rfl⟩, rfl⟩
set_option maxRecDepth 100000 in
theorem fp_CS_28 : fp_ok "SheetTrees$CutSheet" 28 0 6 (t_CS 6) := ⟨R_CS, F_CS, 13, t_CS, rfl, by decide, i_CS, Or.inl (tb_at 218 rfl rfl), rfl, rfl, t_CS_ok, n_CS, rfl⟩
set_option maxRecDepth 100000 in
theorem fl_ST_289 : fl_ok "SheetTrees" 289 0 6 := ⟨R_CS, F_CS, 13, rfl, by decide, i_CS, Or.inr ⟨"SheetTrees", tb_at 219 rfl rfl⟩, rfl⟩
set_option maxRecDepth 100000 in
theorem fp_CS_31 : fp_ok "SheetTrees$CutSheet" 31 0 7 (t_CS 7) := ⟨R_CS, F_CS, 13, t_CS, rfl, by decide, i_CS, Or.inl (tb_at 220 rfl rfl), rfl, rfl, t_CS_ok, n_CS, rfl⟩
set_option maxRecDepth 100000 in
theorem fl_ST_198 : fl_ok "SheetTrees" 198 0 7 := ⟨R_CS, F_CS, 13, rfl, by decide, i_CS, Or.inr ⟨"SheetTrees", tb_at 221 rfl rfl⟩, rfl⟩
set_option maxRecDepth 100000 in
theorem fp_ST_198 : fp_ok "SheetTrees" 198 0 7 (t_CS 7) := ⟨R_CS, F_CS, 13, t_CS, rfl, by decide, i_CS, Or.inr ⟨"SheetTrees", tb_at 221 rfl rfl⟩, rfl, rfl, t_CS_ok, n_CS, rfl⟩
set_option maxRecDepth 100000 in
theorem fp_CS_34 : fp_ok "SheetTrees$CutSheet" 34 0 8 (t_CS 8) := ⟨R_CS, F_CS, 13, t_CS, rfl, by decide, i_CS, Or.inl (tb_at 222 rfl rfl), rfl, rfl, t_CS_ok, n_CS, rfl⟩
set_option maxRecDepth 100000 in
theorem fl_ST_172 : fl_ok "SheetTrees" 172 0 8 := ⟨R_CS, F_CS, 13, rfl, by decide, i_CS, Or.inr ⟨"SheetTrees", tb_at 223 rfl rfl⟩, rfl⟩
set_option maxRecDepth 100000 in
theorem fp_ST_172 : fp_ok "SheetTrees" 172 0 8 (t_CS 8) := ⟨R_CS, F_CS, 13, t_CS, rfl, by decide, i_CS, Or.inr ⟨"SheetTrees", tb_at 223 rfl rfl⟩, rfl, rfl, t_CS_ok, n_CS, rfl⟩
set_option maxRecDepth 100000 in
theorem fp_CS_37 : fp_ok "SheetTrees$CutSheet" 37 0 9 (t_CS 9) := ⟨R_CS, F_CS, 13, t_CS, rfl, by decide, i_CS, Or.inl (tb_at 224 rfl rfl), rfl, rfl, t_CS_ok, n_CS, rfl⟩
set_option maxRecDepth 100000 in
theorem fl_ST_173 : fl_ok "SheetTrees" 173 0 9 := ⟨R_CS, F_CS, 13, rfl, by decide, i_CS, Or.inr ⟨"SheetTrees", tb_at 225 rfl rfl⟩, rfl⟩
set_option maxRecDepth 100000 in
theorem fp_ST_173 : fp_ok "SheetTrees" 173 0 9 (t_CS 9) := ⟨R_CS, F_CS, 13, t_CS, rfl, by decide, i_CS, Or.inr ⟨"SheetTrees", tb_at 225 rfl rfl⟩, rfl, rfl, t_CS_ok, n_CS, rfl⟩
set_option maxRecDepth 100000 in
theorem fp_CS_40 : fp_ok "SheetTrees$CutSheet" 40 0 10 (t_CS 10) := ⟨R_CS, F_CS, 13, t_CS, rfl, by decide, i_CS, Or.inl (tb_at 226 rfl rfl), rfl, rfl, t_CS_ok, n_CS, rfl⟩
set_option maxRecDepth 100000 in
theorem fl_ST_215 : fl_ok "SheetTrees" 215 0 10 := ⟨R_CS, F_CS, 13, rfl, by decide, i_CS, Or.inr ⟨"SheetTrees", tb_at 227 rfl rfl⟩, rfl⟩
set_option maxRecDepth 100000 in
theorem fp_ST_215 : fp_ok "SheetTrees" 215 0 10 (t_CS 10) := ⟨R_CS, F_CS, 13, t_CS, rfl, by decide, i_CS, Or.inr ⟨"SheetTrees", tb_at 227 rfl rfl⟩, rfl, rfl, t_CS_ok, n_CS, rfl⟩
set_option maxRecDepth 100000 in
theorem fp_CS_43 : fp_ok "SheetTrees$CutSheet" 43 0 11 (t_CS 11) := ⟨R_CS, F_CS, 13, t_CS, rfl, by decide, i_CS, Or.inl (tb_at 228 rfl rfl), rfl, rfl, t_CS_ok, n_CS, rfl⟩
set_option maxRecDepth 100000 in
theorem fl_ST_185 : fl_ok "SheetTrees" 185 0 11 := ⟨R_CS, F_CS, 13, rfl, by decide, i_CS, Or.inr ⟨"SheetTrees", tb_at 229 rfl rfl⟩, rfl⟩
set_option maxRecDepth 100000 in
theorem fp_ST_185 : fp_ok "SheetTrees" 185 0 11 (t_CS 11) := ⟨R_CS, F_CS, 13, t_CS, rfl, by decide, i_CS, Or.inr ⟨"SheetTrees", tb_at 229 rfl rfl⟩, rfl, rfl, t_CS_ok, n_CS, rfl⟩
set_option maxRecDepth 100000 in
theorem fp_CS_46 : fp_ok "SheetTrees$CutSheet" 46 0 12 (t_CS 12) := ⟨R_CS, F_CS, 13, t_CS, rfl, by decide, i_CS, Or.inl (tb_at 230 rfl rfl), rfl, rfl, t_CS_ok, n_CS, rfl⟩
set_option maxRecDepth 100000 in
theorem fl_ST_186 : fl_ok "SheetTrees" 186 0 12 := ⟨R_CS, F_CS, 13, rfl, by decide, i_CS, Or.inr ⟨"SheetTrees", tb_at 231 rfl rfl⟩, rfl⟩
set_option maxRecDepth 100000 in
theorem fp_ST_186 : fp_ok "SheetTrees" 186 0 12 (t_CS 12) := ⟨R_CS, F_CS, 13, t_CS, rfl, by decide, i_CS, Or.inr ⟨"SheetTrees", tb_at 231 rfl rfl⟩, rfl, rfl, t_CS_ok, n_CS, rfl⟩
set_option maxRecDepth 100000 in
theorem fl_ST_58 : fl_ok "SheetTrees" 58 5 0 := ⟨R_ST, F_ST, 15, rfl, by decide, i_ST, Or.inl (tb_at 259 rfl rfl), rfl⟩
set_option maxRecDepth 100000 in
theorem fF_ST_58 : fF_ok "SheetTrees" 58 5 0 (t_ST 0) := ⟨R_ST, F_ST, 15, t_ST, rfl, by decide, i_ST, tb_at 259 rfl rfl, rfl, rfl, t_ST_ok, n_ST, rfl, rfl⟩
set_option maxRecDepth 100000 in
theorem fl_ST_61 : fl_ok "SheetTrees" 61 5 1 := ⟨R_ST, F_ST, 15, rfl, by decide, i_ST, Or.inl (tb_at 260 rfl rfl), rfl⟩
set_option maxRecDepth 100000 in
theorem fF_ST_61 : fF_ok "SheetTrees" 61 5 1 (t_ST 1) := ⟨R_ST, F_ST, 15, t_ST, rfl, by decide, i_ST, tb_at 260 rfl rfl, rfl, rfl, t_ST_ok, n_ST, rfl, rfl⟩
set_option maxRecDepth 100000 in
theorem fl_ST_11 : fl_ok "SheetTrees" 11 5 2 := ⟨R_ST, F_ST, 15, rfl, by decide, i_ST, Or.inl (tb_at 261 rfl rfl), rfl⟩
set_option maxRecDepth 100000 in
theorem fF_ST_11 : fF_ok "SheetTrees" 11 5 2 (t_ST 2) := ⟨R_ST, F_ST, 15, t_ST, rfl, by decide, i_ST, tb_at 261 rfl rfl, rfl, rfl, t_ST_ok, n_ST, rfl, rfl⟩
set_option maxRecDepth 100000 in
theorem fl_ST_17 : fl_ok "SheetTrees" 17 5 3 := ⟨R_ST, F_ST, 15, rfl, by decide, i_ST, Or.inl (tb_at 262 rfl rfl), rfl⟩
set_option maxRecDepth 100000 in
theorem fF_ST_17 : fF_ok "SheetTrees" 17 5 3 (t_ST 3) := ⟨R_ST, F_ST, 15, t_ST, rfl, by decide, i_ST, tb_at 262 rfl rfl, rfl, rfl, t_ST_ok, n_ST, rfl, rfl⟩
set_option maxRecDepth 100000 in
theorem fl_ST_23 : fl_ok "SheetTrees" 23 5 4 := ⟨R_ST, F_ST, 15, rfl, by decide, i_ST, Or.inl (tb_at 263 rfl rfl), rfl⟩
set_option maxRecDepth 100000 in
theorem fF_ST_23 : fF_ok "SheetTrees" 23 5 4 (t_ST 4) := ⟨R_ST, F_ST, 15, t_ST, rfl, by decide, i_ST, tb_at 263 rfl rfl, rfl, rfl, t_ST_ok, n_ST, rfl, rfl⟩
set_option maxRecDepth 100000 in
theorem fl_ST_27 : fl_ok "SheetTrees" 27 5 5 := ⟨R_ST, F_ST, 15, rfl, by decide, i_ST, Or.inl (tb_at 264 rfl rfl), rfl⟩
set_option maxRecDepth 100000 in
theorem fF_ST_27 : fF_ok "SheetTrees" 27 5 5 (t_ST 5) := ⟨R_ST, F_ST, 15, t_ST, rfl, by decide, i_ST, tb_at 264 rfl rfl, rfl, rfl, t_ST_ok, n_ST, rfl, rfl⟩
set_option maxRecDepth 100000 in
theorem fl_ST_31 : fl_ok "SheetTrees" 31 5 6 := ⟨R_ST, F_ST, 15, rfl, by decide, i_ST, Or.inl (tb_at 265 rfl rfl), rfl⟩
set_option maxRecDepth 100000 in
theorem fF_ST_31 : fF_ok "SheetTrees" 31 5 6 (t_ST 6) := ⟨R_ST, F_ST, 15, t_ST, rfl, by decide, i_ST, tb_at 265 rfl rfl, rfl, rfl, t_ST_ok, n_ST, rfl, rfl⟩
set_option maxRecDepth 100000 in
theorem fl_ST_69 : fl_ok "SheetTrees" 69 5 7 := ⟨R_ST, F_ST, 15, rfl, by decide, i_ST, Or.inl (tb_at 266 rfl rfl), rfl⟩
set_option maxRecDepth 100000 in
theorem fF_ST_69 : fF_ok "SheetTrees" 69 5 7 (t_ST 7) := ⟨R_ST, F_ST, 15, t_ST, rfl, by decide, i_ST, tb_at 266 rfl rfl, rfl, rfl, t_ST_ok, n_ST, rfl, rfl⟩
set_option maxRecDepth 100000 in
theorem fl_ST_78 : fl_ok "SheetTrees" 78 5 8 := ⟨R_ST, F_ST, 15, rfl, by decide, i_ST, Or.inl (tb_at 267 rfl rfl), rfl⟩
set_option maxRecDepth 100000 in
theorem fF_ST_78 : fF_ok "SheetTrees" 78 5 8 (t_ST 8) := ⟨R_ST, F_ST, 15, t_ST, rfl, by decide, i_ST, tb_at 267 rfl rfl, rfl, rfl, t_ST_ok, n_ST, rfl, rfl⟩
set_option maxRecDepth 100000 in
theorem fl_ST_34 : fl_ok "SheetTrees" 34 5 9 := ⟨R_ST, F_ST, 15, rfl, by decide, i_ST, Or.inl (tb_at 268 rfl rfl), rfl⟩
set_option maxRecDepth 100000 in
theorem fp_ST_34 : fp_ok "SheetTrees" 34 5 9 (t_ST 9) := ⟨R_ST, F_ST, 15, t_ST, rfl, by decide, i_ST, Or.inl (tb_at 268 rfl rfl), rfl, rfl, t_ST_ok, n_ST, rfl⟩
set_option maxRecDepth 100000 in
theorem fl_ST_38 : fl_ok "SheetTrees" 38 5 10 := ⟨R_ST, F_ST, 15, rfl, by decide, i_ST, Or.inl (tb_at 269 rfl rfl), rfl⟩
set_option maxRecDepth 100000 in
theorem fp_ST_38 : fp_ok "SheetTrees" 38 5 10 (t_ST 10) := ⟨R_ST, F_ST, 15, t_ST, rfl, by decide, i_ST, Or.inl (tb_at 269 rfl rfl), rfl, rfl, t_ST_ok, n_ST, rfl⟩
set_option maxRecDepth 100000 in
theorem fl_ST_41 : fl_ok "SheetTrees" 41 5 11 := ⟨R_ST, F_ST, 15, rfl, by decide, i_ST, Or.inl (tb_at 270 rfl rfl), rfl⟩
set_option maxRecDepth 100000 in
theorem fp_ST_41 : fp_ok "SheetTrees" 41 5 11 (t_ST 11) := ⟨R_ST, F_ST, 15, t_ST, rfl, by decide, i_ST, Or.inl (tb_at 270 rfl rfl), rfl, rfl, t_ST_ok, n_ST, rfl⟩
set_option maxRecDepth 100000 in
theorem fl_ST_44 : fl_ok "SheetTrees" 44 5 12 := ⟨R_ST, F_ST, 15, rfl, by decide, i_ST, Or.inl (tb_at 271 rfl rfl), rfl⟩
set_option maxRecDepth 100000 in
theorem fp_ST_44 : fp_ok "SheetTrees" 44 5 12 (t_ST 12) := ⟨R_ST, F_ST, 15, t_ST, rfl, by decide, i_ST, Or.inl (tb_at 271 rfl rfl), rfl, rfl, t_ST_ok, n_ST, rfl⟩
set_option maxRecDepth 100000 in
theorem fl_ST_47 : fl_ok "SheetTrees" 47 5 13 := ⟨R_ST, F_ST, 15, rfl, by decide, i_ST, Or.inl (tb_at 272 rfl rfl), rfl⟩
set_option maxRecDepth 100000 in
theorem fp_ST_47 : fp_ok "SheetTrees" 47 5 13 (t_ST 13) := ⟨R_ST, F_ST, 15, t_ST, rfl, by decide, i_ST, Or.inl (tb_at 272 rfl rfl), rfl, rfl, t_ST_ok, n_ST, rfl⟩
set_option maxRecDepth 100000 in
theorem fl_ST_50 : fl_ok "SheetTrees" 50 5 14 := ⟨R_ST, F_ST, 15, rfl, by decide, i_ST, Or.inl (tb_at 273 rfl rfl), rfl⟩
set_option maxRecDepth 100000 in
theorem fp_ST_50 : fp_ok "SheetTrees" 50 5 14 (t_ST 14) := ⟨R_ST, F_ST, 15, t_ST, rfl, by decide, i_ST, Or.inl (tb_at 273 rfl rfl), rfl, rfl, t_ST_ok, n_ST, rfl⟩
set_option maxRecDepth 100000 in
theorem fl_MO_99 : fl_ok "SheetTreesModel" 99 6 0 := ⟨R_MO, F_MO, 34, rfl, by decide, i_MO, Or.inl (tb_at 657 rfl rfl), rfl⟩
set_option maxRecDepth 100000 in
theorem fp_MO_99 : fp_ok "SheetTreesModel" 99 6 0 (t_MO 0) := ⟨R_MO, F_MO, 34, t_MO, rfl, by decide, i_MO, Or.inl (tb_at 657 rfl rfl), rfl, rfl, t_MO_ok, n_MO, rfl⟩
set_option maxRecDepth 100000 in
theorem fl_MO_89 : fl_ok "SheetTreesModel" 89 6 1 := ⟨R_MO, F_MO, 34, rfl, by decide, i_MO, Or.inl (tb_at 658 rfl rfl), rfl⟩
set_option maxRecDepth 100000 in
theorem fF_MO_89 : fF_ok "SheetTreesModel" 89 6 1 (t_MO 1) := ⟨R_MO, F_MO, 34, t_MO, rfl, by decide, i_MO, tb_at 658 rfl rfl, rfl, rfl, t_MO_ok, n_MO, rfl, rfl⟩
set_option maxRecDepth 100000 in
theorem fl_MO_93 : fl_ok "SheetTreesModel" 93 6 2 := ⟨R_MO, F_MO, 34, rfl, by decide, i_MO, Or.inl (tb_at 659 rfl rfl), rfl⟩
set_option maxRecDepth 100000 in
theorem fF_MO_93 : fF_ok "SheetTreesModel" 93 6 2 (t_MO 2) := ⟨R_MO, F_MO, 34, t_MO, rfl, by decide, i_MO, tb_at 659 rfl rfl, rfl, rfl, t_MO_ok, n_MO, rfl, rfl⟩
set_option maxRecDepth 100000 in
theorem fl_MO_96 : fl_ok "SheetTreesModel" 96 6 3 := ⟨R_MO, F_MO, 34, rfl, by decide, i_MO, Or.inl (tb_at 660 rfl rfl), rfl⟩
set_option maxRecDepth 100000 in
theorem fF_MO_96 : fF_ok "SheetTreesModel" 96 6 3 (t_MO 3) := ⟨R_MO, F_MO, 34, t_MO, rfl, by decide, i_MO, tb_at 660 rfl rfl, rfl, rfl, t_MO_ok, n_MO, rfl, rfl⟩
set_option maxRecDepth 100000 in
theorem fl_MO_106 : fl_ok "SheetTreesModel" 106 6 4 := ⟨R_MO, F_MO, 34, rfl, by decide, i_MO, Or.inl (tb_at 661 rfl rfl), rfl⟩
set_option maxRecDepth 100000 in
theorem fp_MO_106 : fp_ok "SheetTreesModel" 106 6 4 (t_MO 4) := ⟨R_MO, F_MO, 34, t_MO, rfl, by decide, i_MO, Or.inl (tb_at 661 rfl rfl), rfl, rfl, t_MO_ok, n_MO, rfl⟩
set_option maxRecDepth 100000 in
theorem fl_MO_7 : fl_ok "SheetTreesModel" 7 6 5 := ⟨R_MO, F_MO, 34, rfl, by decide, i_MO, Or.inl (tb_at 662 rfl rfl), rfl⟩
set_option maxRecDepth 100000 in
theorem fF_MO_7 : fF_ok "SheetTreesModel" 7 6 5 (t_MO 5) := ⟨R_MO, F_MO, 34, t_MO, rfl, by decide, i_MO, tb_at 662 rfl rfl, rfl, rfl, t_MO_ok, n_MO, rfl, rfl⟩
set_option maxRecDepth 100000 in
theorem fl_MO_13 : fl_ok "SheetTreesModel" 13 6 6 := ⟨R_MO, F_MO, 34, rfl, by decide, i_MO, Or.inl (tb_at 663 rfl rfl), rfl⟩
set_option maxRecDepth 100000 in
theorem fF_MO_13 : fF_ok "SheetTreesModel" 13 6 6 (t_MO 6) := ⟨R_MO, F_MO, 34, t_MO, rfl, by decide, i_MO, tb_at 663 rfl rfl, rfl, rfl, t_MO_ok, n_MO, rfl, rfl⟩
set_option maxRecDepth 100000 in
theorem fl_MO_16 : fl_ok "SheetTreesModel" 16 6 7 := ⟨R_MO, F_MO, 34, rfl, by decide, i_MO, Or.inl (tb_at 664 rfl rfl), rfl⟩
set_option maxRecDepth 100000 in
theorem fF_MO_16 : fF_ok "SheetTreesModel" 16 6 7 (t_MO 7) := ⟨R_MO, F_MO, 34, t_MO, rfl, by decide, i_MO, tb_at 664 rfl rfl, rfl, rfl, t_MO_ok, n_MO, rfl, rfl⟩
set_option maxRecDepth 100000 in
theorem fl_MO_19 : fl_ok "SheetTreesModel" 19 6 8 := ⟨R_MO, F_MO, 34, rfl, by decide, i_MO, Or.inl (tb_at 665 rfl rfl), rfl⟩
set_option maxRecDepth 100000 in
theorem fF_MO_19 : fF_ok "SheetTreesModel" 19 6 8 (t_MO 8) := ⟨R_MO, F_MO, 34, t_MO, rfl, by decide, i_MO, tb_at 665 rfl rfl, rfl, rfl, t_MO_ok, n_MO, rfl, rfl⟩
set_option maxRecDepth 100000 in
theorem fl_MO_113 : fl_ok "SheetTreesModel" 113 6 9 := ⟨R_MO, F_MO, 34, rfl, by decide, i_MO, Or.inl (tb_at 666 rfl rfl), rfl⟩
set_option maxRecDepth 100000 in
theorem fp_MO_113 : fp_ok "SheetTreesModel" 113 6 9 (t_MO 9) := ⟨R_MO, F_MO, 34, t_MO, rfl, by decide, i_MO, Or.inl (tb_at 666 rfl rfl), rfl, rfl, t_MO_ok, n_MO, rfl⟩
set_option maxRecDepth 100000 in
theorem fl_MO_22 : fl_ok "SheetTreesModel" 22 6 10 := ⟨R_MO, F_MO, 34, rfl, by decide, i_MO, Or.inl (tb_at 667 rfl rfl), rfl⟩
set_option maxRecDepth 100000 in
theorem fF_MO_22 : fF_ok "SheetTreesModel" 22 6 10 (t_MO 10) := ⟨R_MO, F_MO, 34, t_MO, rfl, by decide, i_MO, tb_at 667 rfl rfl, rfl, rfl, t_MO_ok, n_MO, rfl, rfl⟩
set_option maxRecDepth 100000 in
theorem fl_MO_25 : fl_ok "SheetTreesModel" 25 6 11 := ⟨R_MO, F_MO, 34, rfl, by decide, i_MO, Or.inl (tb_at 668 rfl rfl), rfl⟩
set_option maxRecDepth 100000 in
theorem fF_MO_25 : fF_ok "SheetTreesModel" 25 6 11 (t_MO 11) := ⟨R_MO, F_MO, 34, t_MO, rfl, by decide, i_MO, tb_at 668 rfl rfl, rfl, rfl, t_MO_ok, n_MO, rfl, rfl⟩
set_option maxRecDepth 100000 in
theorem fl_MO_28 : fl_ok "SheetTreesModel" 28 6 12 := ⟨R_MO, F_MO, 34, rfl, by decide, i_MO, Or.inl (tb_at 669 rfl rfl), rfl⟩
set_option maxRecDepth 100000 in
theorem fF_MO_28 : fF_ok "SheetTreesModel" 28 6 12 (t_MO 12) := ⟨R_MO, F_MO, 34, t_MO, rfl, by decide, i_MO, tb_at 669 rfl rfl, rfl, rfl, t_MO_ok, n_MO, rfl, rfl⟩
set_option maxRecDepth 100000 in
theorem fl_MO_31 : fl_ok "SheetTreesModel" 31 6 13 := ⟨R_MO, F_MO, 34, rfl, by decide, i_MO, Or.inl (tb_at 670 rfl rfl), rfl⟩
set_option maxRecDepth 100000 in
theorem fF_MO_31 : fF_ok "SheetTreesModel" 31 6 13 (t_MO 13) := ⟨R_MO, F_MO, 34, t_MO, rfl, by decide, i_MO, tb_at 670 rfl rfl, rfl, rfl, t_MO_ok, n_MO, rfl, rfl⟩
set_option maxRecDepth 100000 in
theorem fl_MO_35 : fl_ok "SheetTreesModel" 35 6 14 := ⟨R_MO, F_MO, 34, rfl, by decide, i_MO, Or.inl (tb_at 671 rfl rfl), rfl⟩
set_option maxRecDepth 100000 in
theorem fF_MO_35 : fF_ok "SheetTreesModel" 35 6 14 (t_MO 14) := ⟨R_MO, F_MO, 34, t_MO, rfl, by decide, i_MO, tb_at 671 rfl rfl, rfl, rfl, t_MO_ok, n_MO, rfl, rfl⟩
set_option maxRecDepth 100000 in
theorem fl_MO_38 : fl_ok "SheetTreesModel" 38 6 15 := ⟨R_MO, F_MO, 34, rfl, by decide, i_MO, Or.inl (tb_at 672 rfl rfl), rfl⟩
set_option maxRecDepth 100000 in
theorem fF_MO_38 : fF_ok "SheetTreesModel" 38 6 15 (t_MO 15) := ⟨R_MO, F_MO, 34, t_MO, rfl, by decide, i_MO, tb_at 672 rfl rfl, rfl, rfl, t_MO_ok, n_MO, rfl, rfl⟩
set_option maxRecDepth 100000 in
theorem fl_MO_41 : fl_ok "SheetTreesModel" 41 6 16 := ⟨R_MO, F_MO, 34, rfl, by decide, i_MO, Or.inl (tb_at 673 rfl rfl), rfl⟩
set_option maxRecDepth 100000 in
theorem fF_MO_41 : fF_ok "SheetTreesModel" 41 6 16 (t_MO 16) := ⟨R_MO, F_MO, 34, t_MO, rfl, by decide, i_MO, tb_at 673 rfl rfl, rfl, rfl, t_MO_ok, n_MO, rfl, rfl⟩
set_option maxRecDepth 100000 in
theorem fl_MO_44 : fl_ok "SheetTreesModel" 44 6 17 := ⟨R_MO, F_MO, 34, rfl, by decide, i_MO, Or.inl (tb_at 674 rfl rfl), rfl⟩
set_option maxRecDepth 100000 in
theorem fF_MO_44 : fF_ok "SheetTreesModel" 44 6 17 (t_MO 17) := ⟨R_MO, F_MO, 34, t_MO, rfl, by decide, i_MO, tb_at 674 rfl rfl, rfl, rfl, t_MO_ok, n_MO, rfl, rfl⟩
set_option maxRecDepth 100000 in
theorem fl_MO_47 : fl_ok "SheetTreesModel" 47 6 18 := ⟨R_MO, F_MO, 34, rfl, by decide, i_MO, Or.inl (tb_at 675 rfl rfl), rfl⟩
set_option maxRecDepth 100000 in
theorem fF_MO_47 : fF_ok "SheetTreesModel" 47 6 18 (t_MO 18) := ⟨R_MO, F_MO, 34, t_MO, rfl, by decide, i_MO, tb_at 675 rfl rfl, rfl, rfl, t_MO_ok, n_MO, rfl, rfl⟩
set_option maxRecDepth 100000 in
theorem fl_MO_50 : fl_ok "SheetTreesModel" 50 6 19 := ⟨R_MO, F_MO, 34, rfl, by decide, i_MO, Or.inl (tb_at 676 rfl rfl), rfl⟩
set_option maxRecDepth 100000 in
theorem fF_MO_50 : fF_ok "SheetTreesModel" 50 6 19 (t_MO 19) := ⟨R_MO, F_MO, 34, t_MO, rfl, by decide, i_MO, tb_at 676 rfl rfl, rfl, rfl, t_MO_ok, n_MO, rfl, rfl⟩
set_option maxRecDepth 100000 in
theorem fl_MO_53 : fl_ok "SheetTreesModel" 53 6 20 := ⟨R_MO, F_MO, 34, rfl, by decide, i_MO, Or.inl (tb_at 677 rfl rfl), rfl⟩
set_option maxRecDepth 100000 in
theorem fF_MO_53 : fF_ok "SheetTreesModel" 53 6 20 (t_MO 20) := ⟨R_MO, F_MO, 34, t_MO, rfl, by decide, i_MO, tb_at 677 rfl rfl, rfl, rfl, t_MO_ok, n_MO, rfl, rfl⟩
set_option maxRecDepth 100000 in
theorem fl_MO_109 : fl_ok "SheetTreesModel" 109 6 21 := ⟨R_MO, F_MO, 34, rfl, by decide, i_MO, Or.inl (tb_at 678 rfl rfl), rfl⟩
set_option maxRecDepth 100000 in
theorem fp_MO_109 : fp_ok "SheetTreesModel" 109 6 21 (t_MO 21) := ⟨R_MO, F_MO, 34, t_MO, rfl, by decide, i_MO, Or.inl (tb_at 678 rfl rfl), rfl, rfl, t_MO_ok, n_MO, rfl⟩
set_option maxRecDepth 100000 in
theorem fl_MO_152 : fl_ok "SheetTreesModel" 152 6 22 := ⟨R_MO, F_MO, 34, rfl, by decide, i_MO, Or.inl (tb_at 679 rfl rfl), rfl⟩
set_option maxRecDepth 100000 in
theorem fp_MO_152 : fp_ok "SheetTreesModel" 152 6 22 (t_MO 22) := ⟨R_MO, F_MO, 34, t_MO, rfl, by decide, i_MO, Or.inl (tb_at 679 rfl rfl), rfl, rfl, t_MO_ok, n_MO, rfl⟩
set_option maxRecDepth 100000 in
theorem fl_MO_56 : fl_ok "SheetTreesModel" 56 6 23 := ⟨R_MO, F_MO, 34, rfl, by decide, i_MO, Or.inl (tb_at 680 rfl rfl), rfl⟩
set_option maxRecDepth 100000 in
theorem fF_MO_56 : fF_ok "SheetTreesModel" 56 6 23 (t_MO 23) := ⟨R_MO, F_MO, 34, t_MO, rfl, by decide, i_MO, tb_at 680 rfl rfl, rfl, rfl, t_MO_ok, n_MO, rfl, rfl⟩
set_option maxRecDepth 100000 in
theorem fl_MO_59 : fl_ok "SheetTreesModel" 59 6 24 := ⟨R_MO, F_MO, 34, rfl, by decide, i_MO, Or.inl (tb_at 681 rfl rfl), rfl⟩
set_option maxRecDepth 100000 in
theorem fF_MO_59 : fF_ok "SheetTreesModel" 59 6 24 (t_MO 24) := ⟨R_MO, F_MO, 34, t_MO, rfl, by decide, i_MO, tb_at 681 rfl rfl, rfl, rfl, t_MO_ok, n_MO, rfl, rfl⟩
set_option maxRecDepth 100000 in
theorem fl_MO_62 : fl_ok "SheetTreesModel" 62 6 25 := ⟨R_MO, F_MO, 34, rfl, by decide, i_MO, Or.inl (tb_at 682 rfl rfl), rfl⟩
set_option maxRecDepth 100000 in
theorem fF_MO_62 : fF_ok "SheetTreesModel" 62 6 25 (t_MO 25) := ⟨R_MO, F_MO, 34, t_MO, rfl, by decide, i_MO, tb_at 682 rfl rfl, rfl, rfl, t_MO_ok, n_MO, rfl, rfl⟩
set_option maxRecDepth 100000 in
theorem fl_MO_65 : fl_ok "SheetTreesModel" 65 6 26 := ⟨R_MO, F_MO, 34, rfl, by decide, i_MO, Or.inl (tb_at 683 rfl rfl), rfl⟩
set_option maxRecDepth 100000 in
theorem fF_MO_65 : fF_ok "SheetTreesModel" 65 6 26 (t_MO 26) := ⟨R_MO, F_MO, 34, t_MO, rfl, by decide, i_MO, tb_at 683 rfl rfl, rfl, rfl, t_MO_ok, n_MO, rfl, rfl⟩
set_option maxRecDepth 100000 in
theorem fl_MO_68 : fl_ok "SheetTreesModel" 68 6 27 := ⟨R_MO, F_MO, 34, rfl, by decide, i_MO, Or.inl (tb_at 684 rfl rfl), rfl⟩
set_option maxRecDepth 100000 in
theorem fF_MO_68 : fF_ok "SheetTreesModel" 68 6 27 (t_MO 27) := ⟨R_MO, F_MO, 34, t_MO, rfl, by decide, i_MO, tb_at 684 rfl rfl, rfl, rfl, t_MO_ok, n_MO, rfl, rfl⟩
set_option maxRecDepth 100000 in
theorem fl_MO_71 : fl_ok "SheetTreesModel" 71 6 28 := ⟨R_MO, F_MO, 34, rfl, by decide, i_MO, Or.inl (tb_at 685 rfl rfl), rfl⟩
set_option maxRecDepth 100000 in
theorem fF_MO_71 : fF_ok "SheetTreesModel" 71 6 28 (t_MO 28) := ⟨R_MO, F_MO, 34, t_MO, rfl, by decide, i_MO, tb_at 685 rfl rfl, rfl, rfl, t_MO_ok, n_MO, rfl, rfl⟩
set_option maxRecDepth 100000 in
theorem fl_MO_74 : fl_ok "SheetTreesModel" 74 6 29 := ⟨R_MO, F_MO, 34, rfl, by decide, i_MO, Or.inl (tb_at 686 rfl rfl), rfl⟩
set_option maxRecDepth 100000 in
theorem fF_MO_74 : fF_ok "SheetTreesModel" 74 6 29 (t_MO 29) := ⟨R_MO, F_MO, 34, t_MO, rfl, by decide, i_MO, tb_at 686 rfl rfl, rfl, rfl, t_MO_ok, n_MO, rfl, rfl⟩
set_option maxRecDepth 100000 in
theorem fl_MO_77 : fl_ok "SheetTreesModel" 77 6 30 := ⟨R_MO, F_MO, 34, rfl, by decide, i_MO, Or.inl (tb_at 687 rfl rfl), rfl⟩
set_option maxRecDepth 100000 in
theorem fF_MO_77 : fF_ok "SheetTreesModel" 77 6 30 (t_MO 30) := ⟨R_MO, F_MO, 34, t_MO, rfl, by decide, i_MO, tb_at 687 rfl rfl, rfl, rfl, t_MO_ok, n_MO, rfl, rfl⟩
set_option maxRecDepth 100000 in
theorem fl_MO_80 : fl_ok "SheetTreesModel" 80 6 31 := ⟨R_MO, F_MO, 34, rfl, by decide, i_MO, Or.inl (tb_at 688 rfl rfl), rfl⟩
set_option maxRecDepth 100000 in
theorem fF_MO_80 : fF_ok "SheetTreesModel" 80 6 31 (t_MO 31) := ⟨R_MO, F_MO, 34, t_MO, rfl, by decide, i_MO, tb_at 688 rfl rfl, rfl, rfl, t_MO_ok, n_MO, rfl, rfl⟩
set_option maxRecDepth 100000 in
theorem fl_MO_83 : fl_ok "SheetTreesModel" 83 6 32 := ⟨R_MO, F_MO, 34, rfl, by decide, i_MO, Or.inl (tb_at 689 rfl rfl), rfl⟩
set_option maxRecDepth 100000 in
theorem fF_MO_83 : fF_ok "SheetTreesModel" 83 6 32 (t_MO 32) := ⟨R_MO, F_MO, 34, t_MO, rfl, by decide, i_MO, tb_at 689 rfl rfl, rfl, rfl, t_MO_ok, n_MO, rfl, rfl⟩
set_option maxRecDepth 100000 in
theorem fl_MO_86 : fl_ok "SheetTreesModel" 86 6 33 := ⟨R_MO, F_MO, 34, rfl, by decide, i_MO, Or.inl (tb_at 690 rfl rfl), rfl⟩
set_option maxRecDepth 100000 in
theorem fF_MO_86 : fF_ok "SheetTreesModel" 86 6 33 (t_MO 33) := ⟨R_MO, F_MO, 34, t_MO, rfl, by decide, i_MO, tb_at 690 rfl rfl, rfl, rfl, t_MO_ok, n_MO, rfl, rfl⟩
set_option maxRecDepth 100000 in
theorem lk_LW_54 : lk_I "SheetTreesLaw" 54 y_ST_init b_ST_init 5 3 := ⟨Or.inl (tb_at 63 rfl rfl), ⟨tb_at 64 rfl rfl, rfl⟩, tb_at 45 rfl rfl, tb_at 65 rfl rfl, ⟨by decide, by decide⟩, by decide +kernel⟩
set_option maxRecDepth 100000 in
theorem lk_ST_54 : lk_S "SheetTrees" 54 y_ST_nearest b_ST_nearest 3 (some .int) 3 := ⟨Or.inl (tb_at 75 rfl rfl), tb_at 76 rfl rfl, tb_at 45 rfl rfl, tb_at 77 rfl rfl, ⟨by decide, by decide⟩, by decide +kernel⟩
set_option maxRecDepth 100000 in
theorem lk_ST_238 : lk_S "SheetTrees" 238 y_MA_min b_MA_min 2 (some .int) 2 := ⟨Or.inl (tb_at 78 rfl rfl), tb_at 79 rfl rfl, tb_at 46 rfl rfl, tb_at 80 rfl rfl, ⟨by decide, by decide⟩, by decide +kernel⟩
set_option maxRecDepth 100000 in
theorem lk_ST_232 : lk_S "SheetTrees" 232 y_MA_max b_MA_max 2 (some .int) 2 := ⟨Or.inl (tb_at 81 rfl rfl), tb_at 82 rfl rfl, tb_at 46 rfl rfl, tb_at 83 rfl rfl, ⟨by decide, by decide⟩, by decide +kernel⟩
set_option maxRecDepth 100000 in
theorem lk_ST_66 : lk_I "SheetTrees" 66 y_TB_init b_TB_init 2 1 := ⟨Or.inr ⟨"SheetTrees", tb_at 86 rfl rfl⟩, ⟨tb_at 87 rfl rfl, rfl⟩, tb_at 47 rfl rfl, tb_at 88 rfl rfl, ⟨by decide, by decide⟩, by decide +kernel⟩
set_option maxRecDepth 100000 in
theorem lk_ST_75 : lk_I "SheetTrees" 75 y_LY_init b_LY_init 2 1 := ⟨Or.inr ⟨"SheetTrees", tb_at 111 rfl rfl⟩, ⟨tb_at 112 rfl rfl, rfl⟩, tb_at 48 rfl rfl, tb_at 113 rfl rfl, ⟨by decide, by decide⟩, by decide +kernel⟩
set_option maxRecDepth 100000 in
theorem lk_ST_82 : lk_I "SheetTrees" 82 y_SH_init b_SH_init 1 0 := ⟨Or.inr ⟨"SheetTrees", tb_at 143 rfl rfl⟩, ⟨tb_at 144 rfl rfl, rfl⟩, tb_at 49 rfl rfl, tb_at 145 rfl rfl, ⟨by decide, by decide⟩, by decide +kernel⟩
set_option maxRecDepth 100000 in
theorem lk_ST_83 : lk_I "SheetTrees" 83 y_PA_init b_PA_init 1 0 := ⟨Or.inr ⟨"SheetTrees", tb_at 172 rfl rfl⟩, ⟨tb_at 173 rfl rfl, rfl⟩, tb_at 50 rfl rfl, tb_at 174 rfl rfl, ⟨by decide, by decide⟩, by decide +kernel⟩
set_option maxRecDepth 100000 in
theorem lk_ST_84 : lk_I "SheetTrees" 84 y_CS_init b_CS_init 1 0 := ⟨Or.inr ⟨"SheetTrees", tb_at 202 rfl rfl⟩, ⟨tb_at 203 rfl rfl, rfl⟩, tb_at 51 rfl rfl, tb_at 204 rfl rfl, ⟨by decide, by decide⟩, by decide +kernel⟩
set_option maxRecDepth 100000 in
theorem lk_LW_79 : lk_V "SheetTreesLaw" 79 y_ST_run b_ST_run 3 (some .int) 0 := ⟨Or.inl (tb_at 305 rfl rfl), ⟨tb_at 306 rfl rfl, tb_at 307 rfl rfl⟩, tb_at 45 rfl rfl, tb_at 308 rfl rfl, ⟨by decide, by decide⟩, by decide +kernel⟩
set_option maxRecDepth 100000 in
theorem lk_ST_153 : lk_V "SheetTrees" 153 y_ST_startRun b_ST_startRun 2 none 0 := ⟨Or.inl (tb_at 309 rfl rfl), ⟨tb_at 311 rfl rfl, tb_at 0 rfl rfl⟩, tb_at 45 rfl rfl, tb_at 312 rfl rfl, ⟨by decide, by decide⟩, by decide +kernel⟩
set_option maxRecDepth 100000 in
theorem lk_ST_156 : lk_V "SheetTrees" 156 y_ST_partsStillWanted b_ST_partsStillWanted 3 (some .int) 0 := ⟨Or.inl (tb_at 313 rfl rfl), ⟨tb_at 315 rfl rfl, tb_at 1 rfl rfl⟩, tb_at 45 rfl rfl, tb_at 316 rfl rfl, ⟨by decide, by decide⟩, by decide +kernel⟩
set_option maxRecDepth 100000 in
theorem lk_ST_145 : lk_V "SheetTrees" 145 y_TB_fill b_TB_fill 5 none 3 := ⟨Or.inr ⟨"SheetTrees", tb_at 317 rfl rfl⟩, ⟨tb_at 319 rfl rfl, tb_at 2 rfl rfl⟩, tb_at 47 rfl rfl, tb_at 320 rfl rfl, ⟨by decide, by decide⟩, by decide +kernel⟩
set_option maxRecDepth 100000 in
theorem lk_TB_28 : lk_V "SheetTrees$Tables" 28 y_TB_fillWithoutCuts b_TB_fillWithoutCuts 3 none 1 := ⟨Or.inl (tb_at 321 rfl rfl), ⟨tb_at 323 rfl rfl, tb_at 3 rfl rfl⟩, tb_at 47 rfl rfl, tb_at 324 rfl rfl, ⟨by decide, by decide⟩, by decide +kernel⟩
set_option maxRecDepth 100000 in
theorem lk_TB_50 : lk_S "SheetTrees$Tables" 50 y_AR_fill b_AR_fill 4 none 2 := ⟨Or.inl (tb_at 325 rfl rfl), tb_at 326 rfl rfl, tb_at 59 rfl rfl, tb_at 327 rfl rfl, ⟨by decide, by decide⟩, by decide +kernel⟩
set_option maxRecDepth 100000 in
theorem lk_TB_64 : lk_V "SheetTrees$Tables" 64 y_TB_putPart b_TB_putPart 5 none 3 := ⟨Or.inl (tb_at 328 rfl rfl), ⟨tb_at 330 rfl rfl, tb_at 4 rfl rfl⟩, tb_at 47 rfl rfl, tb_at 331 rfl rfl, ⟨by decide, by decide⟩, by decide +kernel⟩
set_option maxRecDepth 100000 in
theorem lk_TB_40 : lk_S "SheetTrees$Tables" 40 y_TB_placeOf b_TB_placeOf 4 (some .int) 4 := ⟨Or.inl (tb_at 332 rfl rfl), tb_at 333 rfl rfl, tb_at 47 rfl rfl, tb_at 334 rfl rfl, ⟨by decide, by decide⟩, by decide +kernel⟩
set_option maxRecDepth 100000 in
theorem lk_TB_72 : lk_V "SheetTrees$Tables" 72 y_TB_put b_TB_put 4 none 3 := ⟨Or.inl (tb_at 335 rfl rfl), ⟨tb_at 337 rfl rfl, tb_at 5 rfl rfl⟩, tb_at 47 rfl rfl, tb_at 338 rfl rfl, ⟨by decide, by decide⟩, by decide +kernel⟩
set_option maxRecDepth 100000 in
theorem lk_TB_32 : lk_V "SheetTrees$Tables" 32 y_TB_fillStage b_TB_fillStage 4 none 1 := ⟨Or.inl (tb_at 339 rfl rfl), ⟨tb_at 341 rfl rfl, tb_at 6 rfl rfl⟩, tb_at 47 rfl rfl, tb_at 342 rfl rfl, ⟨by decide, by decide⟩, by decide +kernel⟩
set_option maxRecDepth 100000 in
theorem lk_TB_75 : lk_V "SheetTrees$Tables" 75 y_TB_choose b_TB_choose 15 none 4 := ⟨Or.inl (tb_at 343 rfl rfl), ⟨tb_at 345 rfl rfl, tb_at 7 rfl rfl⟩, tb_at 47 rfl rfl, tb_at 346 rfl rfl, ⟨by decide, by decide⟩, by decide +kernel⟩
set_option maxRecDepth 100000 in
theorem lk_TB_43 : lk_V "SheetTrees$Tables" 43 y_TB_scoreAt b_TB_scoreAt 2 (some .int) 1 := ⟨Or.inl (tb_at 347 rfl rfl), ⟨tb_at 349 rfl rfl, tb_at 8 rfl rfl⟩, tb_at 47 rfl rfl, tb_at 350 rfl rfl, ⟨by decide, by decide⟩, by decide +kernel⟩
set_option maxRecDepth 100000 in
theorem lk_TB_47 : lk_V "SheetTrees$Tables" 47 y_TB_choiceAt b_TB_choiceAt 2 (some .int) 1 := ⟨Or.inl (tb_at 351 rfl rfl), ⟨tb_at 353 rfl rfl, tb_at 9 rfl rfl⟩, tb_at 47 rfl rfl, tb_at 354 rfl rfl, ⟨by decide, by decide⟩, by decide +kernel⟩
set_option maxRecDepth 100000 in
theorem lk_TB_79 : lk_S "SheetTrees$Tables" 79 y_MA_max b_MA_max 2 (some .int) 2 := ⟨Or.inl (tb_at 355 rfl rfl), tb_at 82 rfl rfl, tb_at 46 rfl rfl, tb_at 83 rfl rfl, ⟨by decide, by decide⟩, by decide +kernel⟩
set_option maxRecDepth 100000 in
theorem lk_ST_159 : lk_V "SheetTrees" 159 y_ST_bestSheet b_ST_bestSheet 7 (some .int) 0 := ⟨Or.inl (tb_at 356 rfl rfl), ⟨tb_at 358 rfl rfl, tb_at 10 rfl rfl⟩, tb_at 45 rfl rfl, tb_at 359 rfl rfl, ⟨by decide, by decide⟩, by decide +kernel⟩
set_option maxRecDepth 100000 in
theorem lk_ST_250 : lk_V "SheetTrees" 250 y_LY_lay b_LY_lay 5 none 2 := ⟨Or.inr ⟨"SheetTrees", tb_at 360 rfl rfl⟩, ⟨tb_at 362 rfl rfl, tb_at 11 rfl rfl⟩, tb_at 48 rfl rfl, tb_at 363 rfl rfl, ⟨by decide, by decide⟩, by decide +kernel⟩
set_option maxRecDepth 100000 in
theorem lk_LY_35 : lk_S "SheetTrees$Layout" 35 y_AR_fill b_AR_fill 4 none 2 := ⟨Or.inl (tb_at 364 rfl rfl), tb_at 326 rfl rfl, tb_at 59 rfl rfl, tb_at 327 rfl rfl, ⟨by decide, by decide⟩, by decide +kernel⟩
set_option maxRecDepth 100000 in
theorem lk_LY_49 : lk_V "SheetTrees$Layout" 49 y_TB_scoreOf b_TB_scoreOf 5 (some .int) 4 := ⟨Or.inr ⟨"SheetTrees", tb_at 365 rfl rfl⟩, ⟨tb_at 367 rfl rfl, tb_at 12 rfl rfl⟩, tb_at 47 rfl rfl, tb_at 368 rfl rfl, ⟨by decide, by decide⟩, by decide +kernel⟩
set_option maxRecDepth 100000 in
theorem lk_LY_55 : lk_V "SheetTrees$Layout" 55 y_LY_layTree b_LY_layTree 17 none 6 := ⟨Or.inl (tb_at 369 rfl rfl), ⟨tb_at 371 rfl rfl, tb_at 13 rfl rfl⟩, tb_at 48 rfl rfl, tb_at 372 rfl rfl, ⟨by decide, by decide⟩, by decide +kernel⟩
set_option maxRecDepth 100000 in
theorem lk_LY_59 : lk_V "SheetTrees$Layout" 59 y_TB_choiceOf b_TB_choiceOf 5 (some .int) 4 := ⟨Or.inr ⟨"SheetTrees", tb_at 373 rfl rfl⟩, ⟨tb_at 375 rfl rfl, tb_at 14 rfl rfl⟩, tb_at 47 rfl rfl, tb_at 376 rfl rfl, ⟨by decide, by decide⟩, by decide +kernel⟩
set_option maxRecDepth 100000 in
theorem lk_LY_62 : lk_S "SheetTrees$Layout" 62 y_PI_of b_PI_of 5 (some .int) 5 := ⟨Or.inr ⟨"SheetTrees", tb_at 377 rfl rfl⟩, tb_at 378 rfl rfl, tb_at 60 rfl rfl, tb_at 379 rfl rfl, ⟨by decide, by decide⟩, by decide +kernel⟩
set_option maxRecDepth 100000 in
theorem lk_LY_68 : lk_V "SheetTrees$Layout" 68 y_LY_addPiece b_LY_addPiece 3 none 2 := ⟨Or.inl (tb_at 380 rfl rfl), ⟨tb_at 382 rfl rfl, tb_at 15 rfl rfl⟩, tb_at 48 rfl rfl, tb_at 383 rfl rfl, ⟨by decide, by decide⟩, by decide +kernel⟩
set_option maxRecDepth 100000 in
theorem lk_ST_254 : lk_V "SheetTrees" 254 y_LY_areaToTake b_LY_areaToTake 4 (some .int) 1 := ⟨Or.inr ⟨"SheetTrees", tb_at 384 rfl rfl⟩, ⟨tb_at 386 rfl rfl, tb_at 16 rfl rfl⟩, tb_at 48 rfl rfl, tb_at 387 rfl rfl, ⟨by decide, by decide⟩, by decide +kernel⟩
set_option maxRecDepth 100000 in
theorem lk_LY_80 : lk_S "SheetTrees$Layout" 80 y_MA_min b_MA_min 2 (some .int) 2 := ⟨Or.inl (tb_at 388 rfl rfl), tb_at 79 rfl rfl, tb_at 46 rfl rfl, tb_at 80 rfl rfl, ⟨by decide, by decide⟩, by decide +kernel⟩
set_option maxRecDepth 100000 in
theorem lk_LY_86 : lk_V "SheetTrees$Layout" 86 y_PA_area b_PA_area 1 (some .int) 0 := ⟨Or.inr ⟨"SheetTrees", tb_at 389 rfl rfl⟩, ⟨tb_at 391 rfl rfl, tb_at 17 rfl rfl⟩, tb_at 50 rfl rfl, tb_at 392 rfl rfl, ⟨by decide, by decide⟩, by decide +kernel⟩
set_option maxRecDepth 100000 in
theorem lk_ST_162 : lk_V "SheetTrees" 162 y_ST_cutOneOf b_ST_cutOneOf 4 none 1 := ⟨Or.inl (tb_at 393 rfl rfl), ⟨tb_at 395 rfl rfl, tb_at 18 rfl rfl⟩, tb_at 45 rfl rfl, tb_at 396 rfl rfl, ⟨by decide, by decide⟩, by decide +kernel⟩
set_option maxRecDepth 100000 in
theorem lk_ST_258 : lk_V "SheetTrees" 258 y_CS_start b_CS_start 4 none 3 := ⟨Or.inr ⟨"SheetTrees", tb_at 397 rfl rfl⟩, ⟨tb_at 399 rfl rfl, tb_at 19 rfl rfl⟩, tb_at 51 rfl rfl, tb_at 400 rfl rfl, ⟨by decide, by decide⟩, by decide +kernel⟩
set_option maxRecDepth 100000 in
theorem lk_CS_52 : lk_V "SheetTrees$CutSheet" 52 y_SH_area b_SH_area 1 (some .int) 0 := ⟨Or.inr ⟨"SheetTrees", tb_at 401 rfl rfl⟩, ⟨tb_at 403 rfl rfl, tb_at 20 rfl rfl⟩, tb_at 49 rfl rfl, tb_at 404 rfl rfl, ⟨by decide, by decide⟩, by decide +kernel⟩
set_option maxRecDepth 100000 in
theorem lk_CS_60 : lk_V "SheetTrees$CutSheet" 60 y_LY_partsUsed b_LY_partsUsed 3 (some .int) 0 := ⟨Or.inr ⟨"SheetTrees", tb_at 405 rfl rfl⟩, ⟨tb_at 407 rfl rfl, tb_at 21 rfl rfl⟩, tb_at 48 rfl rfl, tb_at 408 rfl rfl, ⟨by decide, by decide⟩, by decide +kernel⟩
set_option maxRecDepth 100000 in
theorem lk_ST_262 : lk_V "SheetTrees" 262 y_ST_takePieces b_ST_takePieces 5 none 1 := ⟨Or.inl (tb_at 409 rfl rfl), ⟨tb_at 411 rfl rfl, tb_at 22 rfl rfl⟩, tb_at 45 rfl rfl, tb_at 412 rfl rfl, ⟨by decide, by decide⟩, by decide +kernel⟩
set_option maxRecDepth 100000 in
theorem lk_ST_205 : lk_S "SheetTrees" 205 y_PI_field b_PI_field 2 (some .int) 2 := ⟨Or.inr ⟨"SheetTrees", tb_at 413 rfl rfl⟩, tb_at 414 rfl rfl, tb_at 60 rfl rfl, tb_at 415 rfl rfl, ⟨by decide, by decide⟩, by decide +kernel⟩
set_option maxRecDepth 100000 in
theorem lk_ST_275 : lk_V "SheetTrees" 275 y_ST_keepRest b_ST_keepRest 2 none 1 := ⟨Or.inl (tb_at 416 rfl rfl), ⟨tb_at 418 rfl rfl, tb_at 23 rfl rfl⟩, tb_at 45 rfl rfl, tb_at 419 rfl rfl, ⟨by decide, by decide⟩, by decide +kernel⟩
set_option maxRecDepth 100000 in
theorem lk_ST_282 : lk_S "SheetTrees" 282 y_PI_isAtLeast b_PI_isAtLeast 2 (some .boolean) 2 := ⟨Or.inr ⟨"SheetTrees", tb_at 420 rfl rfl⟩, tb_at 421 rfl rfl, tb_at 60 rfl rfl, tb_at 422 rfl rfl, ⟨by decide, by decide⟩, by decide +kernel⟩
set_option maxRecDepth 100000 in
theorem lk_PI_9 : lk_S "SheetTrees$Piece" 9 y_PI_field b_PI_field 2 (some .int) 2 := ⟨Or.inl (tb_at 423 rfl rfl), tb_at 414 rfl rfl, tb_at 60 rfl rfl, tb_at 415 rfl rfl, ⟨by decide, by decide⟩, by decide +kernel⟩
set_option maxRecDepth 100000 in
theorem lk_ST_278 : lk_V "SheetTrees" 278 y_ST_takePart b_ST_takePart 4 none 3 := ⟨Or.inl (tb_at 424 rfl rfl), ⟨tb_at 426 rfl rfl, tb_at 24 rfl rfl⟩, tb_at 45 rfl rfl, tb_at 427 rfl rfl, ⟨by decide, by decide⟩, by decide +kernel⟩
set_option maxRecDepth 100000 in
theorem lk_ST_237 : lk_V "SheetTrees" 237 y_PA_area b_PA_area 1 (some .int) 0 := ⟨Or.inr ⟨"SheetTrees", tb_at 428 rfl rfl⟩, ⟨tb_at 391 rfl rfl, tb_at 17 rfl rfl⟩, tb_at 50 rfl rfl, tb_at 392 rfl rfl, ⟨by decide, by decide⟩, by decide +kernel⟩
set_option maxRecDepth 100000 in
theorem lk_ST_266 : lk_V "SheetTrees" 266 y_ST_firstAlike b_ST_firstAlike 5 (some .int) 1 := ⟨Or.inl (tb_at 429 rfl rfl), ⟨tb_at 431 rfl rfl, tb_at 25 rfl rfl⟩, tb_at 45 rfl rfl, tb_at 432 rfl rfl, ⟨by decide, by decide⟩, by decide +kernel⟩
set_option maxRecDepth 100000 in
theorem lk_LW_100 : lk_V "SheetTreesLaw" 100 y_ST_bound b_ST_bound 4 (some .int) 0 := ⟨Or.inl (tb_at 433 rfl rfl), ⟨tb_at 434 rfl rfl, tb_at 435 rfl rfl⟩, tb_at 45 rfl rfl, tb_at 436 rfl rfl, ⟨by decide, by decide⟩, by decide +kernel⟩
set_option maxRecDepth 100000 in
theorem lk_ST_230 : lk_V "SheetTrees" 230 y_SH_area b_SH_area 1 (some .int) 0 := ⟨Or.inr ⟨"SheetTrees", tb_at 437 rfl rfl⟩, ⟨tb_at 403 rfl rfl, tb_at 20 rfl rfl⟩, tb_at 49 rfl rfl, tb_at 404 rfl rfl, ⟨by decide, by decide⟩, by decide +kernel⟩
set_option maxRecDepth 100000 in
theorem lk_LW_48 : lk_S "SheetTreesLaw" 48 y_LW_cell b_LW_cell 2 (some .int) 2 := ⟨Or.inl (tb_at 438 rfl rfl), tb_at 439 rfl rfl, tb_at 44 rfl rfl, tb_at 440 rfl rfl, ⟨by decide, by decide⟩, by decide +kernel⟩
set_option maxRecDepth 100000 in
theorem lk_LW_7 : lk_V "SheetTreesLaw" 7 y_ST_sheet b_ST_sheet 6 (some .int) 4 := ⟨Or.inl (tb_at 446 rfl rfl), ⟨tb_at 447 rfl rfl, tb_at 448 rfl rfl⟩, tb_at 45 rfl rfl, tb_at 449 rfl rfl, ⟨by decide, by decide⟩, by decide +kernel⟩
set_option maxRecDepth 100000 in
theorem lk_ST_85 : lk_S "SheetTrees" 85 y_ST_isSide b_ST_isSide 1 (some .boolean) 1 := ⟨Or.inl (tb_at 450 rfl rfl), tb_at 451 rfl rfl, tb_at 45 rfl rfl, tb_at 452 rfl rfl, ⟨by decide, by decide⟩, by decide +kernel⟩
set_option maxRecDepth 100000 in
theorem lk_ST_96 : lk_S "SheetTrees" 96 y_ST_isWithin b_ST_isWithin 3 (some .boolean) 3 := ⟨Or.inl (tb_at 453 rfl rfl), tb_at 454 rfl rfl, tb_at 45 rfl rfl, tb_at 455 rfl rfl, ⟨by decide, by decide⟩, by decide +kernel⟩
set_option maxRecDepth 100000 in
theorem lk_LW_17 : lk_V "SheetTreesLaw" 17 y_ST_part b_ST_part 6 (some .int) 4 := ⟨Or.inl (tb_at 545 rfl rfl), ⟨tb_at 546 rfl rfl, tb_at 547 rfl rfl⟩, tb_at 45 rfl rfl, tb_at 548 rfl rfl, ⟨by decide, by decide⟩, by decide +kernel⟩
set_option maxRecDepth 100000 in
theorem lk_LW_21 : lk_V "SheetTreesLaw" 21 y_ST_count b_ST_count 5 (some .int) 2 := ⟨Or.inl (tb_at 555 rfl rfl), ⟨tb_at 556 rfl rfl, tb_at 557 rfl rfl⟩, tb_at 45 rfl rfl, tb_at 558 rfl rfl, ⟨by decide, by decide⟩, by decide +kernel⟩
set_option maxRecDepth 100000 in
theorem lk_ST_133 : lk_V "SheetTrees" 133 y_ST_partAt b_ST_partAt 2 (some (.object "SheetTrees$Part")) 1 := ⟨Or.inl (tb_at 559 rfl rfl), ⟨tb_at 561 rfl rfl, tb_at 27 rfl rfl⟩, tb_at 45 rfl rfl, tb_at 562 rfl rfl, ⟨by decide, by decide⟩, by decide +kernel⟩
set_option maxRecDepth 100000 in
theorem lk_LW_27 : lk_V "SheetTreesLaw" 27 y_ST_worth b_ST_worth 5 (some .int) 4 := ⟨Or.inl (tb_at 582 rfl rfl), ⟨tb_at 583 rfl rfl, tb_at 584 rfl rfl⟩, tb_at 45 rfl rfl, tb_at 585 rfl rfl, ⟨by decide, by decide⟩, by decide +kernel⟩
set_option maxRecDepth 100000 in
theorem lk_ST_141 : lk_V "SheetTrees" 141 y_ST_partsTold b_ST_partsTold 3 (some .int) 0 := ⟨Or.inl (tb_at 588 rfl rfl), ⟨tb_at 590 rfl rfl, tb_at 28 rfl rfl⟩, tb_at 45 rfl rfl, tb_at 591 rfl rfl, ⟨by decide, by decide⟩, by decide +kernel⟩
set_option maxRecDepth 100000 in
theorem lk_ST_149 : lk_V "SheetTrees" 149 y_TB_valueOf b_TB_valueOf 5 (some .int) 4 := ⟨Or.inr ⟨"SheetTrees", tb_at 592 rfl rfl⟩, ⟨tb_at 594 rfl rfl, tb_at 29 rfl rfl⟩, tb_at 47 rfl rfl, tb_at 595 rfl rfl, ⟨by decide, by decide⟩, by decide +kernel⟩
set_option maxRecDepth 100000 in
theorem lk_TB_36 : lk_V "SheetTrees$Tables" 36 y_TB_scoreOf b_TB_scoreOf 5 (some .int) 4 := ⟨Or.inl (tb_at 596 rfl rfl), ⟨tb_at 367 rfl rfl, tb_at 12 rfl rfl⟩, tb_at 47 rfl rfl, tb_at 368 rfl rfl, ⟨by decide, by decide⟩, by decide +kernel⟩
set_option maxRecDepth 100000 in
theorem lk_LW_30 : lk_V "SheetTreesLaw" 30 y_ST_cut b_ST_cut 4 (some .int) 2 := ⟨Or.inl (tb_at 600 rfl rfl), ⟨tb_at 601 rfl rfl, tb_at 602 rfl rfl⟩, tb_at 45 rfl rfl, tb_at 603 rfl rfl, ⟨by decide, by decide⟩, by decide +kernel⟩
set_option maxRecDepth 100000 in
theorem lk_ST_165 : lk_V "SheetTrees" 165 y_ST_cutSheetAt b_ST_cutSheetAt 2 (some (.object "SheetTrees$CutSheet")) 1 := ⟨Or.inl (tb_at 604 rfl rfl), ⟨tb_at 606 rfl rfl, tb_at 30 rfl rfl⟩, tb_at 45 rfl rfl, tb_at 607 rfl rfl, ⟨by decide, by decide⟩, by decide +kernel⟩
set_option maxRecDepth 100000 in
theorem lk_ST_218 : lk_V "SheetTrees" 218 y_ST_needRun b_ST_needRun 1 none 0 := ⟨Or.inl (tb_at 608 rfl rfl), ⟨tb_at 610 rfl rfl, tb_at 31 rfl rfl⟩, tb_at 45 rfl rfl, tb_at 611 rfl rfl, ⟨by decide, by decide⟩, by decide +kernel⟩
set_option maxRecDepth 100000 in
theorem lk_LW_33 : lk_V "SheetTreesLaw" 33 y_ST_taken b_ST_taken 5 (some .int) 3 := ⟨Or.inl (tb_at 618 rfl rfl), ⟨tb_at 619 rfl rfl, tb_at 620 rfl rfl⟩, tb_at 45 rfl rfl, tb_at 621 rfl rfl, ⟨by decide, by decide⟩, by decide +kernel⟩
set_option maxRecDepth 100000 in
theorem lk_ST_201 : lk_S "SheetTrees" 201 y_ST_pieceAt b_ST_pieceAt 2 (some .int) 2 := ⟨Or.inl (tb_at 624 rfl rfl), tb_at 625 rfl rfl, tb_at 45 rfl rfl, tb_at 626 rfl rfl, ⟨by decide, by decide⟩, by decide +kernel⟩
set_option maxRecDepth 100000 in
theorem lk_LW_37 : lk_V "SheetTreesLaw" 37 y_ST_rest b_ST_rest 5 (some .int) 3 := ⟨Or.inl (tb_at 630 rfl rfl), ⟨tb_at 631 rfl rfl, tb_at 632 rfl rfl⟩, tb_at 45 rfl rfl, tb_at 633 rfl rfl, ⟨by decide, by decide⟩, by decide +kernel⟩
set_option maxRecDepth 100000 in
theorem lk_LW_40 : lk_V "SheetTreesLaw" 40 y_ST_left b_ST_left 2 (some .int) 1 := ⟨Or.inl (tb_at 639 rfl rfl), ⟨tb_at 640 rfl rfl, tb_at 641 rfl rfl⟩, tb_at 45 rfl rfl, tb_at 642 rfl rfl, ⟨by decide, by decide⟩, by decide +kernel⟩
set_option maxRecDepth 100000 in
theorem lk_LW_44 : lk_V "SheetTreesLaw" 44 y_ST_all b_ST_all 6 (some .long) 1 := ⟨Or.inl (tb_at 646 rfl rfl), ⟨tb_at 647 rfl rfl, tb_at 648 rfl rfl⟩, tb_at 45 rfl rfl, tb_at 649 rfl rfl, ⟨by decide, by decide⟩, by decide +kernel⟩
set_option maxRecDepth 100000 in
theorem lk_LW_59 : lk_I "SheetTreesLaw" 59 y_MO_init b_MO_init 4 3 := ⟨Or.inl (tb_at 653 rfl rfl), ⟨tb_at 654 rfl rfl, rfl⟩, tb_at 52 rfl rfl, tb_at 655 rfl rfl, ⟨by decide, by decide⟩, by decide +kernel⟩
set_option maxRecDepth 100000 in
theorem lk_LW_64 : lk_V "SheetTreesLaw" 64 y_MO_thrown b_MO_thrown 1 (some .int) 0 := ⟨Or.inl (tb_at 761 rfl rfl), ⟨tb_at 762 rfl rfl, tb_at 763 rfl rfl⟩, tb_at 52 rfl rfl, tb_at 764 rfl rfl, ⟨by decide, by decide⟩, by decide +kernel⟩
set_option maxRecDepth 100000 in
theorem lk_LW_63 : lk_V "SheetTreesLaw" 63 y_MO_sheet b_MO_sheet 5 (some .int) 4 := ⟨Or.inl (tb_at 765 rfl rfl), ⟨tb_at 766 rfl rfl, tb_at 767 rfl rfl⟩, tb_at 52 rfl rfl, tb_at 768 rfl rfl, ⟨by decide, by decide⟩, by decide +kernel⟩
set_option maxRecDepth 100000 in
theorem lk_MO_102 : lk_S "SheetTreesModel" 102 y_MO_in b_MO_in 3 (some .boolean) 3 := ⟨Or.inl (tb_at 769 rfl rfl), tb_at 770 rfl rfl, tb_at 52 rfl rfl, tb_at 771 rfl rfl, ⟨by decide, by decide⟩, by decide +kernel⟩
set_option maxRecDepth 100000 in
theorem lk_LW_71 : lk_V "SheetTreesLaw" 71 y_MO_part b_MO_part 5 (some .int) 4 := ⟨Or.inl (tb_at 772 rfl rfl), ⟨tb_at 773 rfl rfl, tb_at 774 rfl rfl⟩, tb_at 52 rfl rfl, tb_at 775 rfl rfl, ⟨by decide, by decide⟩, by decide +kernel⟩
set_option maxRecDepth 100000 in
theorem lk_LW_75 : lk_V "SheetTreesLaw" 75 y_MO_count b_MO_count 4 (some .int) 2 := ⟨Or.inl (tb_at 776 rfl rfl), ⟨tb_at 777 rfl rfl, tb_at 778 rfl rfl⟩, tb_at 52 rfl rfl, tb_at 779 rfl rfl, ⟨by decide, by decide⟩, by decide +kernel⟩
set_option maxRecDepth 100000 in
theorem lk_LW_78 : lk_V "SheetTreesLaw" 78 y_MO_worth b_MO_worth 6 (some .int) 4 := ⟨Or.inl (tb_at 780 rfl rfl), ⟨tb_at 781 rfl rfl, tb_at 782 rfl rfl⟩, tb_at 52 rfl rfl, tb_at 783 rfl rfl, ⟨by decide, by decide⟩, by decide +kernel⟩
set_option maxRecDepth 100000 in
theorem lk_MO_130 : lk_V "SheetTreesModel" 130 y_MO_wantAll b_MO_wantAll 2 none 0 := ⟨Or.inl (tb_at 784 rfl rfl), ⟨tb_at 786 rfl rfl, tb_at 32 rfl rfl⟩, tb_at 52 rfl rfl, tb_at 787 rfl rfl, ⟨by decide, by decide⟩, by decide +kernel⟩
set_option maxRecDepth 100000 in
theorem lk_MO_133 : lk_V "SheetTreesModel" 133 y_MO_fill b_MO_fill 5 none 0 := ⟨Or.inl (tb_at 788 rfl rfl), ⟨tb_at 790 rfl rfl, tb_at 33 rfl rfl⟩, tb_at 52 rfl rfl, tb_at 791 rfl rfl, ⟨by decide, by decide⟩, by decide +kernel⟩
set_option maxRecDepth 100000 in
theorem lk_MO_127 : lk_V "SheetTreesModel" 127 y_MO_fillOne b_MO_fillOne 13 none 4 := ⟨Or.inl (tb_at 792 rfl rfl), ⟨tb_at 794 rfl rfl, tb_at 34 rfl rfl⟩, tb_at 52 rfl rfl, tb_at 795 rfl rfl, ⟨by decide, by decide⟩, by decide +kernel⟩
set_option maxRecDepth 100000 in
theorem lk_MO_116 : lk_S "SheetTreesModel" 116 y_MO_place b_MO_place 4 (some .int) 4 := ⟨Or.inl (tb_at 796 rfl rfl), tb_at 797 rfl rfl, tb_at 52 rfl rfl, tb_at 798 rfl rfl, ⟨by decide, by decide⟩, by decide +kernel⟩
set_option maxRecDepth 100000 in
theorem lk_MO_120 : lk_V "SheetTreesModel" 120 y_MO_isJust b_MO_isJust 4 (some .boolean) 3 := ⟨Or.inl (tb_at 799 rfl rfl), ⟨tb_at 801 rfl rfl, tb_at 35 rfl rfl⟩, tb_at 52 rfl rfl, tb_at 802 rfl rfl, ⟨by decide, by decide⟩, by decide +kernel⟩
set_option maxRecDepth 100000 in
theorem lk_MO_123 : lk_V "SheetTreesModel" 123 y_MO_better b_MO_better 5 none 4 := ⟨Or.inl (tb_at 803 rfl rfl), ⟨tb_at 805 rfl rfl, tb_at 36 rfl rfl⟩, tb_at 52 rfl rfl, tb_at 806 rfl rfl, ⟨by decide, by decide⟩, by decide +kernel⟩
set_option maxRecDepth 100000 in
theorem lk_LW_82 : lk_V "SheetTreesLaw" 82 y_MO_run b_MO_run 8 (some .int) 0 := ⟨Or.inl (tb_at 807 rfl rfl), ⟨tb_at 808 rfl rfl, tb_at 809 rfl rfl⟩, tb_at 52 rfl rfl, tb_at 810 rfl rfl, ⟨by decide, by decide⟩, by decide +kernel⟩
set_option maxRecDepth 100000 in
theorem lk_MO_155 : lk_V "SheetTreesModel" 155 y_MO_walk b_MO_walk 13 none 2 := ⟨Or.inl (tb_at 811 rfl rfl), ⟨tb_at 813 rfl rfl, tb_at 37 rfl rfl⟩, tb_at 52 rfl rfl, tb_at 814 rfl rfl, ⟨by decide, by decide⟩, by decide +kernel⟩
set_option maxRecDepth 100000 in
theorem lk_MO_136 : lk_V "SheetTreesModel" 136 y_MO_wayOf b_MO_wayOf 4 (some .int) 1 := ⟨Or.inl (tb_at 815 rfl rfl), ⟨tb_at 817 rfl rfl, tb_at 38 rfl rfl⟩, tb_at 52 rfl rfl, tb_at 818 rfl rfl, ⟨by decide, by decide⟩, by decide +kernel⟩
set_option maxRecDepth 100000 in
theorem lk_MO_140 : lk_V "SheetTreesModel" 140 y_MO_push b_MO_push 8 none 7 := ⟨Or.inl (tb_at 819 rfl rfl), ⟨tb_at 821 rfl rfl, tb_at 39 rfl rfl⟩, tb_at 52 rfl rfl, tb_at 822 rfl rfl, ⟨by decide, by decide⟩, by decide +kernel⟩
set_option maxRecDepth 100000 in
theorem lk_MO_144 : lk_V "SheetTreesModel" 144 y_MO_keepRest b_MO_keepRest 7 none 5 := ⟨Or.inl (tb_at 823 rfl rfl), ⟨tb_at 825 rfl rfl, tb_at 40 rfl rfl⟩, tb_at 52 rfl rfl, tb_at 826 rfl rfl, ⟨by decide, by decide⟩, by decide +kernel⟩
set_option maxRecDepth 100000 in
theorem lk_MO_148 : lk_V "SheetTreesModel" 148 y_MO_take b_MO_take 8 none 6 := ⟨Or.inl (tb_at 827 rfl rfl), ⟨tb_at 829 rfl rfl, tb_at 41 rfl rfl⟩, tb_at 52 rfl rfl, tb_at 830 rfl rfl, ⟨by decide, by decide⟩, by decide +kernel⟩
set_option maxRecDepth 100000 in
theorem lk_LW_85 : lk_V "SheetTreesLaw" 85 y_MO_cut b_MO_cut 4 (some .int) 2 := ⟨Or.inl (tb_at 831 rfl rfl), ⟨tb_at 832 rfl rfl, tb_at 833 rfl rfl⟩, tb_at 52 rfl rfl, tb_at 834 rfl rfl, ⟨by decide, by decide⟩, by decide +kernel⟩
set_option maxRecDepth 100000 in
theorem lk_MO_159 : lk_V "SheetTreesModel" 159 y_MO_look b_MO_look 4 none 3 := ⟨Or.inl (tb_at 835 rfl rfl), ⟨tb_at 837 rfl rfl, tb_at 42 rfl rfl⟩, tb_at 52 rfl rfl, tb_at 838 rfl rfl, ⟨by decide, by decide⟩, by decide +kernel⟩
set_option maxRecDepth 100000 in
theorem lk_MO_163 : lk_V "SheetTreesModel" 163 y_MO_isAlike b_MO_isAlike 5 (some .boolean) 2 := ⟨Or.inl (tb_at 839 rfl rfl), ⟨tb_at 841 rfl rfl, tb_at 43 rfl rfl⟩, tb_at 52 rfl rfl, tb_at 842 rfl rfl, ⟨by decide, by decide⟩, by decide +kernel⟩
set_option maxRecDepth 100000 in
theorem lk_LW_89 : lk_V "SheetTreesLaw" 89 y_MO_taken b_MO_taken 4 (some .int) 3 := ⟨Or.inl (tb_at 843 rfl rfl), ⟨tb_at 844 rfl rfl, tb_at 845 rfl rfl⟩, tb_at 52 rfl rfl, tb_at 846 rfl rfl, ⟨by decide, by decide⟩, by decide +kernel⟩
set_option maxRecDepth 100000 in
theorem lk_LW_92 : lk_V "SheetTreesLaw" 92 y_MO_rest b_MO_rest 4 (some .int) 3 := ⟨Or.inl (tb_at 847 rfl rfl), ⟨tb_at 848 rfl rfl, tb_at 849 rfl rfl⟩, tb_at 52 rfl rfl, tb_at 850 rfl rfl, ⟨by decide, by decide⟩, by decide +kernel⟩
set_option maxRecDepth 100000 in
theorem lk_LW_96 : lk_V "SheetTreesLaw" 96 y_MO_left b_MO_left 2 (some .int) 1 := ⟨Or.inl (tb_at 851 rfl rfl), ⟨tb_at 852 rfl rfl, tb_at 853 rfl rfl⟩, tb_at 52 rfl rfl, tb_at 854 rfl rfl, ⟨by decide, by decide⟩, by decide +kernel⟩
set_option maxRecDepth 100000 in
theorem lk_LW_99 : lk_V "SheetTreesLaw" 99 y_MO_all b_MO_all 6 (some .long) 1 := ⟨Or.inl (tb_at 855 rfl rfl), ⟨tb_at 856 rfl rfl, tb_at 857 rfl rfl⟩, tb_at 52 rfl rfl, tb_at 858 rfl rfl, ⟨by decide, by decide⟩, by decide +kernel⟩
set_option maxRecDepth 100000 in
theorem lk_LW_103 : lk_V "SheetTreesLaw" 103 y_MO_bound b_MO_bound 4 (some .int) 0 := ⟨Or.inl (tb_at 859 rfl rfl), ⟨tb_at 860 rfl rfl, tb_at 861 rfl rfl⟩, tb_at 52 rfl rfl, tb_at 862 rfl rfl, ⟨by decide, by decide⟩, by decide +kernel⟩
