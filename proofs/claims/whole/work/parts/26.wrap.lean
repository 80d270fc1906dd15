/-! ===== the wrappers of the law ===== -/
theorem in_L : Cond.initialized "BaizeDoorLaw" ∈ sm_gt := sm_g1 0 (by decide +kernel) rfl
theorem cl_L_13 : Cond.classLink "BaizeDoorLaw" 13 "java/lang/IllegalArgumentException" ∈ sm_gt := sm_g3 102 (by decide +kernel) rfl
theorem cl_L_18 : Cond.classLink "BaizeDoorLaw" 18 "java/util/NoSuchElementException" ∈ sm_gt := sm_g4 93 (by decide +kernel) rfl
theorem mv_L_7 : sm_mv "BaizeDoorLaw" 7 1 11 mX11_school := ⟨⟨sm_g3 103 (by decide +kernel) rfl, in_X11, cd_X11_school, by decide, by decide, by decide +kernel, by decide⟩, im_X11_school, se_X11_school, by decide, _, rfl, rfl⟩
theorem mv_L_15 : sm_mv "BaizeDoorLaw" 15 1 11 mX11_count := ⟨⟨sm_g4 94 (by decide +kernel) rfl, in_X11, cd_X11_count, by decide, by decide, by decide +kernel, by decide⟩, im_X11_count, se_X11_count, by decide, _, rfl, rfl⟩
theorem mv_L_20 : sm_mv "BaizeDoorLaw" 20 2 11 mX11_piece := ⟨⟨sm_g4 130 (by decide +kernel) rfl, in_X11, cd_X11_piece, by decide, by decide, by decide +kernel, by decide⟩, im_X11_piece, se_X11_piece, by decide, _, rfl, rfl⟩
theorem mv_L_24 : sm_mv "BaizeDoorLaw" 24 2 11 mX11_bar := ⟨⟨sm_g4 147 (by decide +kernel) rfl, in_X11, cd_X11_bar, by decide, by decide, by decide +kernel, by decide⟩, im_X11_bar, se_X11_bar, by decide, _, rfl, rfl⟩
theorem mv_L_27 : sm_mv "BaizeDoorLaw" 27 2 11 mX11_pupil := ⟨⟨sm_g4 155 (by decide +kernel) rfl, in_X11, cd_X11_pupil, by decide, by decide, by decide +kernel, by decide⟩, im_X11_pupil, se_X11_pupil, by decide, _, rfl, rfl⟩
theorem mv_L_30 : sm_mv "BaizeDoorLaw" 30 2 11 mX11_door := ⟨⟨sm_g4 173 (by decide +kernel) rfl, in_X11, cd_X11_door, by decide, by decide, by decide +kernel, by decide⟩, im_X11_door, se_X11_door, by decide, _, rfl, rfl⟩
theorem mv_L_33 : sm_mv "BaizeDoorLaw" 33 2 11 mX11_gloves := ⟨⟨sm_g4 194 (by decide +kernel) rfl, in_X11, cd_X11_gloves, by decide, by decide, by decide +kernel, by decide⟩, im_X11_gloves, se_X11_gloves, by decide, _, rfl, rfl⟩
theorem mv_L_36 : sm_mv "BaizeDoorLaw" 36 2 11 mX11_begin := ⟨⟨sm_g4 202 (by decide +kernel) rfl, in_X11, cd_X11_begin, by decide, by decide, by decide +kernel, by decide⟩, im_X11_begin, se_X11_begin, by decide, _, rfl, rfl⟩
theorem mv_L_39 : sm_mv "BaizeDoorLaw" 39 3 11 mX11_then := ⟨⟨sm_g4 209 (by decide +kernel) rfl, in_X11, cd_X11_then, by decide, by decide, by decide +kernel, by decide⟩, im_X11_then, se_X11_then, by decide, _, rfl, rfl⟩
theorem mv_L_43 : sm_mv "BaizeDoorLaw" 43 1 11 mX11_done := ⟨⟨sm_g4 224 (by decide +kernel) rfl, in_X11, cd_X11_done, by decide, by decide, by decide +kernel, by decide⟩, im_X11_done, se_X11_done, by decide, _, rfl, rfl⟩
theorem mv_L_46 : sm_mv "BaizeDoorLaw" 46 1 11 mX11_heard := ⟨⟨sm_g4 231 (by decide +kernel) rfl, in_X11, cd_X11_heard, by decide, by decide, by decide +kernel, by decide⟩, im_X11_heard, se_X11_heard, by decide, _, rfl, rfl⟩
theorem mv_L_49 : sm_mv "BaizeDoorLaw" 49 1 11 mX11_best := ⟨⟨sm_g4 238 (by decide +kernel) rfl, in_X11, cd_X11_best, by decide, by decide, by decide +kernel, by decide⟩, im_X11_best, se_X11_best, by decide, _, rfl, rfl⟩
theorem mv_L_52 : sm_mv "BaizeDoorLaw" 52 1 11 mX11_free := ⟨⟨sm_g5 9 (by decide +kernel) rfl, in_X11, cd_X11_free, by decide, by decide, by decide +kernel, by decide⟩, im_X11_free, se_X11_free, by decide, _, rfl, rfl⟩
theorem mv_L_55 : sm_mv "BaizeDoorLaw" 55 1 11 mX11_nobody := ⟨⟨sm_g5 21 (by decide +kernel) rfl, in_X11, cd_X11_nobody, by decide, by decide, by decide +kernel, by decide⟩, im_X11_nobody, se_X11_nobody, by decide, _, rfl, rfl⟩
theorem mv_L_58 : sm_mv "BaizeDoorLaw" 58 1 11 mX11_through := ⟨⟨sm_g5 32 (by decide +kernel) rfl, in_X11, cd_X11_through, by decide, by decide, by decide +kernel, by decide⟩, im_X11_through, se_X11_through, by decide, _, rfl, rfl⟩
theorem mv_L_61 : sm_mv "BaizeDoorLaw" 61 2 11 mX11_toBeDone := ⟨⟨sm_g5 55 (by decide +kernel) rfl, in_X11, cd_X11_toBeDone, by decide, by decide, by decide +kernel, by decide⟩, im_X11_toBeDone, se_X11_toBeDone, by decide, _, rfl, rfl⟩
theorem mv_L_64 : sm_mv "BaizeDoorLaw" 64 2 11 mX11_fits := ⟨⟨sm_g5 62 (by decide +kernel) rfl, in_X11, cd_X11_fits, by decide, by decide, by decide +kernel, by decide⟩, im_X11_fits, se_X11_fits, by decide, _, rfl, rfl⟩
theorem mv_L_67 : sm_mv "BaizeDoorLaw" 67 1 11 mX11_repertoire := ⟨⟨sm_g5 73 (by decide +kernel) rfl, in_X11, cd_X11_repertoire, by decide, by decide, by decide +kernel, by decide⟩, im_X11_repertoire, se_X11_repertoire, by decide, _, rfl, rfl⟩
theorem mv_L_70 : sm_mv "BaizeDoorLaw" 70 1 11 mX11_choice := ⟨⟨sm_g5 80 (by decide +kernel) rfl, in_X11, cd_X11_choice, by decide, by decide, by decide +kernel, by decide⟩, im_X11_choice, se_X11_choice, by decide, _, rfl, rfl⟩
theorem mv_L_73 : sm_mv "BaizeDoorLaw" 73 2 11 mX11_concert := ⟨⟨sm_g5 113 (by decide +kernel) rfl, in_X11, cd_X11_concert, by decide, by decide, by decide +kernel, by decide⟩, im_X11_concert, se_X11_concert, by decide, _, rfl, rfl⟩
theorem mv_L_76 : sm_mv "BaizeDoorLaw" 76 1 11 mX11_next := ⟨⟨sm_g5 125 (by decide +kernel) rfl, in_X11, cd_X11_next, by decide, by decide, by decide +kernel, by decide⟩, im_X11_next, se_X11_next, by decide, _, rfl, rfl⟩
theorem mv_L_79 : sm_mv "BaizeDoorLaw" 79 2 11 mX11_rush := ⟨⟨sm_g5 132 (by decide +kernel) rfl, in_X11, cd_X11_rush, by decide, by decide, by decide +kernel, by decide⟩, im_X11_rush, se_X11_rush, by decide, _, rfl, rfl⟩
theorem mv_L_82 : sm_mv "BaizeDoorLaw" 82 1 11 mX11_sorest := ⟨⟨sm_g5 143 (by decide +kernel) rfl, in_X11, cd_X11_sorest, by decide, by decide, by decide +kernel, by decide⟩, im_X11_sorest, se_X11_sorest, by decide, _, rfl, rfl⟩
theorem mv_L_85 : sm_mv "BaizeDoorLaw" 85 1 11 mX11_toGlove := ⟨⟨sm_g5 150 (by decide +kernel) rfl, in_X11, cd_X11_toGlove, by decide, by decide, by decide +kernel, by decide⟩, im_X11_toGlove, se_X11_toGlove, by decide, _, rfl, rfl⟩
theorem mv_L_88 : sm_mv "BaizeDoorLaw" 88 1 11 mX11_full := ⟨⟨sm_g5 157 (by decide +kernel) rfl, in_X11, cd_X11_full, by decide, by decide, by decide +kernel, by decide⟩, im_X11_full, se_X11_full, by decide, _, rfl, rfl⟩
theorem mv_L_91 : sm_mv "BaizeDoorLaw" 91 1 11 mX11_empty := ⟨⟨sm_g5 164 (by decide +kernel) rfl, in_X11, cd_X11_empty, by decide, by decide, by decide +kernel, by decide⟩, im_X11_empty, se_X11_empty, by decide, _, rfl, rfl⟩
theorem mv_L_94 : sm_mv "BaizeDoorLaw" 94 2 11 mX11_common := ⟨⟨sm_g5 171 (by decide +kernel) rfl, in_X11, cd_X11_common, by decide, by decide, by decide +kernel, by decide⟩, im_X11_common, se_X11_common, by decide, _, rfl, rfl⟩
theorem mv_L_97 : sm_mv "BaizeDoorLaw" 97 1 11 mX11_work := ⟨⟨sm_g5 183 (by decide +kernel) rfl, in_X11, cd_X11_work, by decide, by decide, by decide +kernel, by decide⟩, im_X11_work, se_X11_work, by decide, _, rfl, rfl⟩
theorem mv_L_100 : sm_mv "BaizeDoorLaw" 100 1 11 mX11_mates := ⟨⟨sm_g5 190 (by decide +kernel) rfl, in_X11, cd_X11_mates, by decide, by decide, by decide +kernel, by decide⟩, im_X11_mates, se_X11_mates, by decide, _, rfl, rfl⟩
theorem mv_L_103 : sm_mv "BaizeDoorLaw" 103 3 11 mX11_see := ⟨⟨sm_g5 197 (by decide +kernel) rfl, in_X11, cd_X11_see, by decide, by decide, by decide +kernel, by decide⟩, im_X11_see, se_X11_see, by decide, _, rfl, rfl⟩
theorem mv_L_106 : sm_mv "BaizeDoorLaw" 106 1 11 mX11_been := ⟨⟨sm_g5 208 (by decide +kernel) rfl, in_X11, cd_X11_been, by decide, by decide, by decide +kernel, by decide⟩, im_X11_been, se_X11_been, by decide, _, rfl, rfl⟩
theorem mv_L_109 : sm_mv "BaizeDoorLaw" 109 1 11 mX11_listen := ⟨⟨sm_g6 13 (by decide +kernel) rfl, in_X11, cd_X11_listen, by decide, by decide, by decide +kernel, by decide⟩, im_X11_listen, se_X11_listen, by decide, _, rfl, rfl⟩
theorem mv_L_112 : sm_mv "BaizeDoorLaw" 112 3 11 mX11_game := ⟨⟨sm_g6 29 (by decide +kernel) rfl, in_X11, cd_X11_game, by decide, by decide, by decide +kernel, by decide⟩, im_X11_game, se_X11_game, by decide, _, rfl, rfl⟩
theorem mv_L_115 : sm_mv "BaizeDoorLaw" 115 3 11 mX11_years := ⟨⟨sm_g6 63 (by decide +kernel) rfl, in_X11, cd_X11_years, by decide, by decide, by decide +kernel, by decide⟩, im_X11_years, se_X11_years, by decide, _, rfl, rfl⟩
theorem mv_L_122 : sm_mv "BaizeDoorLaw" 122 5 11 mX11_feed := ⟨⟨sm_g2 171 (by decide +kernel) rfl, in_X11, cd_X11_feed, by decide, by decide, by decide +kernel, by decide⟩, im_X11_feed, se_X11_feed, by decide, _, rfl, rfl⟩
theorem mv_L_126 : sm_mv "BaizeDoorLaw" 126 5 12 mX12_feed := ⟨⟨sm_g7 49 (by decide +kernel) rfl, in_X12, cd_X12_feed, by decide, by decide, by decide +kernel, by decide⟩, im_X12_feed, se_X12_feed, by decide, _, rfl, rfl⟩
theorem mv_L_132 : sm_mv "BaizeDoorLaw" 132 1 12 mX12_school := ⟨⟨sm_g7 53 (by decide +kernel) rfl, in_X12, cd_X12_school, by decide, by decide, by decide +kernel, by decide⟩, im_X12_school, se_X12_school, by decide, _, rfl, rfl⟩
theorem mv_L_133 : sm_mv "BaizeDoorLaw" 133 0 12 mX12_thrown := ⟨⟨sm_g7 45 (by decide +kernel) rfl, in_X12, cd_X12_thrown, by decide, by decide, by decide +kernel, by decide⟩, im_X12_thrown, se_X12_thrown, by decide, _, rfl, rfl⟩
theorem mv_L_137 : sm_mv "BaizeDoorLaw" 137 0 11 mX11_fault := ⟨⟨sm_g2 179 (by decide +kernel) rfl, in_X11, cd_X11_fault, by decide, by decide, by decide +kernel, by decide⟩, im_X11_fault, se_X11_fault, by decide, _, rfl, rfl⟩
theorem mv_L_140 : sm_mv "BaizeDoorLaw" 140 0 12 mX12_fault := ⟨⟨sm_g7 166 (by decide +kernel) rfl, in_X12, cd_X12_fault, by decide, by decide, by decide +kernel, by decide⟩, im_X12_fault, se_X12_fault, by decide, _, rfl, rfl⟩
theorem mv_L_143 : sm_mv "BaizeDoorLaw" 143 1 12 mX12_count := ⟨⟨sm_g7 170 (by decide +kernel) rfl, in_X12, cd_X12_count, by decide, by decide, by decide +kernel, by decide⟩, im_X12_count, se_X12_count, by decide, _, rfl, rfl⟩
theorem mv_L_147 : sm_mv "BaizeDoorLaw" 147 2 12 mX12_piece := ⟨⟨sm_g7 193 (by decide +kernel) rfl, in_X12, cd_X12_piece, by decide, by decide, by decide +kernel, by decide⟩, im_X12_piece, se_X12_piece, by decide, _, rfl, rfl⟩
theorem mv_L_150 : sm_mv "BaizeDoorLaw" 150 2 12 mX12_bar := ⟨⟨sm_g7 214 (by decide +kernel) rfl, in_X12, cd_X12_bar, by decide, by decide, by decide +kernel, by decide⟩, im_X12_bar, se_X12_bar, by decide, _, rfl, rfl⟩
theorem mv_L_153 : sm_mv "BaizeDoorLaw" 153 2 12 mX12_pupil := ⟨⟨sm_g7 218 (by decide +kernel) rfl, in_X12, cd_X12_pupil, by decide, by decide, by decide +kernel, by decide⟩, im_X12_pupil, se_X12_pupil, by decide, _, rfl, rfl⟩
theorem mv_L_154 : sm_mv "BaizeDoorLaw" 154 1 11 mX11_weeks := ⟨⟨sm_g2 183 (by decide +kernel) rfl, in_X11, cd_X11_weeks, by decide, by decide, by decide +kernel, by decide⟩, im_X11_weeks, se_X11_weeks, by decide, _, rfl, rfl⟩
theorem mv_L_157 : sm_mv "BaizeDoorLaw" 157 1 12 mX12_weeks := ⟨⟨sm_g8 4 (by decide +kernel) rfl, in_X12, cd_X12_weeks, by decide, by decide, by decide +kernel, by decide⟩, im_X12_weeks, se_X12_weeks, by decide, _, rfl, rfl⟩
theorem mv_L_160 : sm_mv "BaizeDoorLaw" 160 2 12 mX12_door := ⟨⟨sm_g8 41 (by decide +kernel) rfl, in_X12, cd_X12_door, by decide, by decide, by decide +kernel, by decide⟩, im_X12_door, se_X12_door, by decide, _, rfl, rfl⟩
theorem mv_L_163 : sm_mv "BaizeDoorLaw" 163 2 12 mX12_gloves := ⟨⟨sm_g8 58 (by decide +kernel) rfl, in_X12, cd_X12_gloves, by decide, by decide, by decide +kernel, by decide⟩, im_X12_gloves, se_X12_gloves, by decide, _, rfl, rfl⟩
theorem mv_L_166 : sm_mv "BaizeDoorLaw" 166 2 12 mX12_begin := ⟨⟨sm_g8 63 (by decide +kernel) rfl, in_X12, cd_X12_begin, by decide, by decide, by decide +kernel, by decide⟩, im_X12_begin, se_X12_begin, by decide, _, rfl, rfl⟩
theorem mv_L_167 : sm_mv "BaizeDoorLaw" 167 1 11 mX11_pianos := ⟨⟨sm_g3 24 (by decide +kernel) rfl, in_X11, cd_X11_pianos, by decide, by decide, by decide +kernel, by decide⟩, im_X11_pianos, se_X11_pianos, by decide, _, rfl, rfl⟩
theorem mv_L_170 : sm_mv "BaizeDoorLaw" 170 1 12 mX12_pianos := ⟨⟨sm_g8 67 (by decide +kernel) rfl, in_X12, cd_X12_pianos, by decide, by decide, by decide +kernel, by decide⟩, im_X12_pianos, se_X12_pianos, by decide, _, rfl, rfl⟩
theorem mv_L_171 : sm_mv "BaizeDoorLaw" 171 0 11 mX11_undo := ⟨⟨sm_g3 28 (by decide +kernel) rfl, in_X11, cd_X11_undo, by decide, by decide, by decide +kernel, by decide⟩, im_X11_undo, se_X11_undo, by decide, _, rfl, rfl⟩
theorem mv_L_174 : sm_mv "BaizeDoorLaw" 174 0 12 mX12_undo := ⟨⟨sm_g8 72 (by decide +kernel) rfl, in_X12, cd_X12_undo, by decide, by decide, by decide +kernel, by decide⟩, im_X12_undo, se_X12_undo, by decide, _, rfl, rfl⟩
theorem mv_L_178 : sm_mv "BaizeDoorLaw" 178 3 12 mX12_then := ⟨⟨sm_g8 80 (by decide +kernel) rfl, in_X12, cd_X12_then, by decide, by decide, by decide +kernel, by decide⟩, im_X12_then, se_X12_then, by decide, _, rfl, rfl⟩
theorem mv_L_181 : sm_mv "BaizeDoorLaw" 181 1 12 mX12_done := ⟨⟨sm_g8 85 (by decide +kernel) rfl, in_X12, cd_X12_done, by decide, by decide, by decide +kernel, by decide⟩, im_X12_done, se_X12_done, by decide, _, rfl, rfl⟩
theorem mv_L_184 : sm_mv "BaizeDoorLaw" 184 1 12 mX12_heard := ⟨⟨sm_g8 89 (by decide +kernel) rfl, in_X12, cd_X12_heard, by decide, by decide, by decide +kernel, by decide⟩, im_X12_heard, se_X12_heard, by decide, _, rfl, rfl⟩
theorem mv_L_187 : sm_mv "BaizeDoorLaw" 187 1 12 mX12_best := ⟨⟨sm_g8 97 (by decide +kernel) rfl, in_X12, cd_X12_best, by decide, by decide, by decide +kernel, by decide⟩, im_X12_best, se_X12_best, by decide, _, rfl, rfl⟩
theorem mv_L_188 : sm_mv "BaizeDoorLaw" 188 0 11 mX11_stuck := ⟨⟨sm_g3 44 (by decide +kernel) rfl, in_X11, cd_X11_stuck, by decide, by decide, by decide +kernel, by decide⟩, im_X11_stuck, se_X11_stuck, by decide, _, rfl, rfl⟩
theorem mv_L_191 : sm_mv "BaizeDoorLaw" 191 0 12 mX12_stuck := ⟨⟨sm_g8 105 (by decide +kernel) rfl, in_X12, cd_X12_stuck, by decide, by decide, by decide +kernel, by decide⟩, im_X12_stuck, se_X12_stuck, by decide, _, rfl, rfl⟩
theorem mv_L_194 : sm_mv "BaizeDoorLaw" 194 1 12 mX12_free := ⟨⟨sm_g8 117 (by decide +kernel) rfl, in_X12, cd_X12_free, by decide, by decide, by decide +kernel, by decide⟩, im_X12_free, se_X12_free, by decide, _, rfl, rfl⟩
theorem mv_L_197 : sm_mv "BaizeDoorLaw" 197 1 12 mX12_nobody := ⟨⟨sm_g8 129 (by decide +kernel) rfl, in_X12, cd_X12_nobody, by decide, by decide, by decide +kernel, by decide⟩, im_X12_nobody, se_X12_nobody, by decide, _, rfl, rfl⟩
theorem mv_L_200 : sm_mv "BaizeDoorLaw" 200 1 12 mX12_through := ⟨⟨sm_g8 137 (by decide +kernel) rfl, in_X12, cd_X12_through, by decide, by decide, by decide +kernel, by decide⟩, im_X12_through, se_X12_through, by decide, _, rfl, rfl⟩
theorem mv_L_203 : sm_mv "BaizeDoorLaw" 203 2 12 mX12_toBeDone := ⟨⟨sm_g8 145 (by decide +kernel) rfl, in_X12, cd_X12_toBeDone, by decide, by decide, by decide +kernel, by decide⟩, im_X12_toBeDone, se_X12_toBeDone, by decide, _, rfl, rfl⟩
theorem mv_L_206 : sm_mv "BaizeDoorLaw" 206 2 12 mX12_fits := ⟨⟨sm_g8 153 (by decide +kernel) rfl, in_X12, cd_X12_fits, by decide, by decide, by decide +kernel, by decide⟩, im_X12_fits, se_X12_fits, by decide, _, rfl, rfl⟩
theorem mv_L_209 : sm_mv "BaizeDoorLaw" 209 1 12 mX12_repertoire := ⟨⟨sm_g8 161 (by decide +kernel) rfl, in_X12, cd_X12_repertoire, by decide, by decide, by decide +kernel, by decide⟩, im_X12_repertoire, se_X12_repertoire, by decide, _, rfl, rfl⟩
theorem mv_L_212 : sm_mv "BaizeDoorLaw" 212 1 12 mX12_choice := ⟨⟨sm_g8 165 (by decide +kernel) rfl, in_X12, cd_X12_choice, by decide, by decide, by decide +kernel, by decide⟩, im_X12_choice, se_X12_choice, by decide, _, rfl, rfl⟩
theorem mv_L_213 : sm_mv "BaizeDoorLaw" 213 0 11 mX11_hardest := ⟨⟨sm_g3 57 (by decide +kernel) rfl, in_X11, cd_X11_hardest, by decide, by decide, by decide +kernel, by decide⟩, im_X11_hardest, se_X11_hardest, by decide, _, rfl, rfl⟩
theorem mv_L_216 : sm_mv "BaizeDoorLaw" 216 0 12 mX12_hardest := ⟨⟨sm_g8 178 (by decide +kernel) rfl, in_X12, cd_X12_hardest, by decide, by decide, by decide +kernel, by decide⟩, im_X12_hardest, se_X12_hardest, by decide, _, rfl, rfl⟩
theorem mv_L_219 : sm_mv "BaizeDoorLaw" 219 2 12 mX12_concert := ⟨⟨sm_g8 186 (by decide +kernel) rfl, in_X12, cd_X12_concert, by decide, by decide, by decide +kernel, by decide⟩, im_X12_concert, se_X12_concert, by decide, _, rfl, rfl⟩
theorem mv_L_220 : sm_mv "BaizeDoorLaw" 220 0 11 mX11_duet := ⟨⟨sm_g3 62 (by decide +kernel) rfl, in_X11, cd_X11_duet, by decide, by decide, by decide +kernel, by decide⟩, im_X11_duet, se_X11_duet, by decide, _, rfl, rfl⟩
theorem mv_L_223 : sm_mv "BaizeDoorLaw" 223 0 12 mX12_duet := ⟨⟨sm_g8 190 (by decide +kernel) rfl, in_X12, cd_X12_duet, by decide, by decide, by decide +kernel, by decide⟩, im_X12_duet, se_X12_duet, by decide, _, rfl, rfl⟩
theorem mv_L_226 : sm_mv "BaizeDoorLaw" 226 1 12 mX12_next := ⟨⟨sm_g8 109 (by decide +kernel) rfl, in_X12, cd_X12_next, by decide, by decide, by decide +kernel, by decide⟩, im_X12_next, se_X12_next, by decide, _, rfl, rfl⟩
theorem mv_L_229 : sm_mv "BaizeDoorLaw" 229 2 12 mX12_rush := ⟨⟨sm_g8 113 (by decide +kernel) rfl, in_X12, cd_X12_rush, by decide, by decide, by decide +kernel, by decide⟩, im_X12_rush, se_X12_rush, by decide, _, rfl, rfl⟩
theorem mv_L_232 : sm_mv "BaizeDoorLaw" 232 1 12 mX12_sorest := ⟨⟨sm_g8 101 (by decide +kernel) rfl, in_X12, cd_X12_sorest, by decide, by decide, by decide +kernel, by decide⟩, im_X12_sorest, se_X12_sorest, by decide, _, rfl, rfl⟩
theorem mv_L_235 : sm_mv "BaizeDoorLaw" 235 1 12 mX12_toGlove := ⟨⟨sm_g8 149 (by decide +kernel) rfl, in_X12, cd_X12_toGlove, by decide, by decide, by decide +kernel, by decide⟩, im_X12_toGlove, se_X12_toGlove, by decide, _, rfl, rfl⟩
theorem mv_L_238 : sm_mv "BaizeDoorLaw" 238 1 12 mX12_full := ⟨⟨sm_g8 125 (by decide +kernel) rfl, in_X12, cd_X12_full, by decide, by decide, by decide +kernel, by decide⟩, im_X12_full, se_X12_full, by decide, _, rfl, rfl⟩
theorem mv_L_241 : sm_mv "BaizeDoorLaw" 241 1 12 mX12_empty := ⟨⟨sm_g8 133 (by decide +kernel) rfl, in_X12, cd_X12_empty, by decide, by decide, by decide +kernel, by decide⟩, im_X12_empty, se_X12_empty, by decide, _, rfl, rfl⟩
theorem mv_L_244 : sm_mv "BaizeDoorLaw" 244 2 12 mX12_common := ⟨⟨sm_g8 195 (by decide +kernel) rfl, in_X12, cd_X12_common, by decide, by decide, by decide +kernel, by decide⟩, im_X12_common, se_X12_common, by decide, _, rfl, rfl⟩
theorem mv_L_247 : sm_mv "BaizeDoorLaw" 247 1 12 mX12_work := ⟨⟨sm_g8 199 (by decide +kernel) rfl, in_X12, cd_X12_work, by decide, by decide, by decide +kernel, by decide⟩, im_X12_work, se_X12_work, by decide, _, rfl, rfl⟩
theorem mv_L_250 : sm_mv "BaizeDoorLaw" 250 1 12 mX12_mates := ⟨⟨sm_g8 203 (by decide +kernel) rfl, in_X12, cd_X12_mates, by decide, by decide, by decide +kernel, by decide⟩, im_X12_mates, se_X12_mates, by decide, _, rfl, rfl⟩
theorem mv_L_253 : sm_mv "BaizeDoorLaw" 253 3 12 mX12_see := ⟨⟨sm_g8 207 (by decide +kernel) rfl, in_X12, cd_X12_see, by decide, by decide, by decide +kernel, by decide⟩, im_X12_see, se_X12_see, by decide, _, rfl, rfl⟩
theorem mv_L_256 : sm_mv "BaizeDoorLaw" 256 1 12 mX12_been := ⟨⟨sm_g8 212 (by decide +kernel) rfl, in_X12, cd_X12_been, by decide, by decide, by decide +kernel, by decide⟩, im_X12_been, se_X12_been, by decide, _, rfl, rfl⟩
theorem mv_L_259 : sm_mv "BaizeDoorLaw" 259 1 12 mX12_listen := ⟨⟨sm_g8 224 (by decide +kernel) rfl, in_X12, cd_X12_listen, by decide, by decide, by decide +kernel, by decide⟩, im_X12_listen, se_X12_listen, by decide, _, rfl, rfl⟩
theorem mv_L_260 : sm_mv "BaizeDoorLaw" 260 0 11 mX11_forget := ⟨⟨sm_g3 69 (by decide +kernel) rfl, in_X11, cd_X11_forget, by decide, by decide, by decide +kernel, by decide⟩, im_X11_forget, se_X11_forget, by decide, _, rfl, rfl⟩
theorem mv_L_263 : sm_mv "BaizeDoorLaw" 263 0 12 mX12_forget := ⟨⟨sm_g8 232 (by decide +kernel) rfl, in_X12, cd_X12_forget, by decide, by decide, by decide +kernel, by decide⟩, im_X12_forget, se_X12_forget, by decide, _, rfl, rfl⟩
theorem mv_L_266 : sm_mv "BaizeDoorLaw" 266 3 12 mX12_game := ⟨⟨sm_g8 236 (by decide +kernel) rfl, in_X12, cd_X12_game, by decide, by decide, by decide +kernel, by decide⟩, im_X12_game, se_X12_game, by decide, _, rfl, rfl⟩
theorem mv_L_269 : sm_mv "BaizeDoorLaw" 269 3 12 mX12_years := ⟨⟨sm_g9 4 (by decide +kernel) rfl, in_X12, cd_X12_years, by decide, by decide, by decide +kernel, by decide⟩, im_X12_years, se_X12_years, by decide, _, rfl, rfl⟩
theorem mv_L_270 : sm_mv "BaizeDoorLaw" 270 0 11 mX11_image := ⟨⟨sm_g3 77 (by decide +kernel) rfl, in_X11, cd_X11_image, by decide, by decide, by decide +kernel, by decide⟩, im_X11_image, se_X11_image, by decide, _, rfl, rfl⟩
theorem mv_L_273 : sm_mv "BaizeDoorLaw" 273 0 12 mX12_image := ⟨⟨sm_g9 17 (by decide +kernel) rfl, in_X12, cd_X12_image, by decide, by decide, by decide +kernel, by decide⟩, im_X12_image, se_X12_image, by decide, _, rfl, rfl⟩
theorem mv_L_274 : sm_mv "BaizeDoorLaw" 274 0 11 mX11_restore := ⟨⟨sm_g3 94 (by decide +kernel) rfl, in_X11, cd_X11_restore, by decide, by decide, by decide +kernel, by decide⟩, im_X11_restore, se_X11_restore, by decide, _, rfl, rfl⟩
theorem mv_L_278 : sm_mv "BaizeDoorLaw" 278 0 12 mX12_restore := ⟨⟨sm_g9 24 (by decide +kernel) rfl, in_X12, cd_X12_restore, by decide, by decide, by decide +kernel, by decide⟩, im_X12_restore, se_X12_restore, by decide, _, rfl, rfl⟩
abbrev mL_school : sm_I := (yL_school, cL_school, 4, some .int)
abbrev hL_school : List (Nat × Nat × Nat × Nat) := [(0, 9, 12, 13)]
theorem ls_school : lz_ms 127 3 mL_school hL_school := ⟨sm_g3 99 (by decide +kernel) rfl, sm_g3 100 (by decide +kernel) rfl, in_L, sm_g3 101 (by decide +kernel) rfl, by decide, by decide, by decide +kernel, by decide⟩
set_option maxRecDepth 20000 in
theorem wk_school_ok {l : Launch} {σ σ' : sm_M} {v : Int64} {a1 : Int32} {r : Int32} (hE : sm_E l 74 mX11_school [.inr (.inl 0), .inl a1] σ (.inl (some (.inl r))) σ') : wz_E l mL_school hL_school [.inr (.inl 0), .inl a1, .inr (.inl 5001)] σ v 0 σ' r.toInt64 0 0 := by
  refine wz_meth (by decide) (Nat.le_of_ble_eq_true rfl) ?_
  refine wz_aload_n (q := 1) dL_school_0 rfl rfl 2 rfl ?_
  refine wz_iconst (x := 0) (q := 2) dL_school_1 rfl (by decide) ?_
  refine wz_aload_n (q := 3) dL_school_2 rfl rfl 0 rfl ?_
  refine wz_iload_n (q := 4) dL_school_3 rfl rfl 1 rfl ?_
  exact wz_ok (As := [.inl a1]) (p1 := 7) (p2 := 8) (p3 := 9) (p4 := 15) hE mv_L_7 rfl (by decide) rfl dL_school_4 rfl dL_school_7 rfl dL_school_8 rfl dL_school_9 (by decide) dL_school_15 dL_school_16
set_option maxRecDepth 20000 in
theorem wk_school_i {l : Launch} {σ σ' : sm_M} {v : Int64} {a1 : Int32} (hE : sm_E l 74 mX11_school [.inr (.inl 0), .inl a1] σ (.inr "java/lang/IllegalArgumentException") σ') : wz_E l mL_school hL_school [.inr (.inl 0), .inl a1, .inr (.inl 5001)] σ v 1 σ' v 1 6 := by
  refine wz_meth (by decide) (Nat.le_of_ble_eq_true rfl) ?_
  refine wz_aload_n (q := 1) dL_school_0 rfl rfl 2 rfl ?_
  refine wz_iconst (x := 0) (q := 2) dL_school_1 rfl (by decide) ?_
  refine wz_aload_n (q := 3) dL_school_2 rfl rfl 0 rfl ?_
  refine wz_iload_n (q := 4) dL_school_3 rfl rfl 1 rfl ?_
  exact wz_thr1 (As := [.inl a1]) (p2 := 13) hE mv_L_7 rfl (by decide) rfl dL_school_4 (by decide) (by decide) cl_L_13 (by decide) (Or.inl ⟨3, dL_school_12, rfl, by decide⟩) dL_school_13 (by decide) dL_school_14
theorem wk_school {l : Launch} (hl : l.stackTraces = false) {N : Nat} {σ σ' : sm_M} {v : Int64} {a1 : Int32} {y : Int32 ⊕ String} {k : Int32} (h : f_X11_school N 0 a1 σ = some (y, σ')) (hk : zo_k 0 1 y k) : ∃ (v' : Int64) (mc ms : Nat), mc ≤ 1 ∧ ms ≤ 6 ∧ (∀ r, y = .inl r → v' = r.toInt64) ∧ wz_E l mL_school hL_school [.inr (.inl 0), .inl a1, .inr (.inl 5001)] σ v k σ' v' mc ms := by
  have h0 := e_X11_school hl h
  rcases y with r | E
  · have hk : k = 0 := hk
    subst hk
    have h1 : sm_E l 74 mX11_school [.inr (.inl 0), .inl a1] σ (.inl (some (.inl r))) σ' := h0
    exact ⟨_, 0, 0, by decide, by decide, (fun r9 e9 => by cases e9; rfl), wk_school_ok h1⟩
  · rcases hk with ⟨rfl, h9, rfl⟩ | ⟨rfl, h9, rfl⟩
    · exact absurd rfl h9
    · have h1 : sm_E l 74 mX11_school [.inr (.inl 0), .inl a1] σ (.inr "java/lang/IllegalArgumentException") σ' := h0
      exact ⟨_, 1, 6, by decide, by decide, (fun r9 e9 => by cases e9), wk_school_i h1⟩
abbrev mL_count : sm_I := (yL_count, cL_count, 4, some .int)
abbrev hL_count : List (Nat × Nat × Nat × Nat) := [(0, 9, 12, 18)]
theorem ls_count : lz_ms 141 3 mL_count hL_count := ⟨sm_g4 90 (by decide +kernel) rfl, sm_g4 91 (by decide +kernel) rfl, in_L, sm_g4 92 (by decide +kernel) rfl, by decide, by decide, by decide +kernel, by decide⟩
set_option maxRecDepth 20000 in
theorem wk_count_ok {l : Launch} {σ σ' : sm_M} {v : Int64} {a1 : Int32} {r : Int32} (hE : sm_E l 3 mX11_count [.inr (.inl 0), .inl a1] σ (.inl (some (.inl r))) σ') : wz_E l mL_count hL_count [.inr (.inl 0), .inl a1, .inr (.inl 5001)] σ v 0 σ' r.toInt64 0 0 := by
  refine wz_meth (by decide) (Nat.le_of_ble_eq_true rfl) ?_
  refine wz_aload_n (q := 1) dL_count_0 rfl rfl 2 rfl ?_
  refine wz_iconst (x := 0) (q := 2) dL_count_1 rfl (by decide) ?_
  refine wz_aload_n (q := 3) dL_count_2 rfl rfl 0 rfl ?_
  refine wz_iload_n (q := 4) dL_count_3 rfl rfl 1 rfl ?_
  exact wz_ok (As := [.inl a1]) (p1 := 7) (p2 := 8) (p3 := 9) (p4 := 15) hE mv_L_15 rfl (by decide) rfl dL_count_4 rfl dL_count_7 rfl dL_count_8 rfl dL_count_9 (by decide) dL_count_15 dL_count_16
set_option maxRecDepth 20000 in
theorem wk_count_n {l : Launch} {σ σ' : sm_M} {v : Int64} {a1 : Int32} (hE : sm_E l 3 mX11_count [.inr (.inl 0), .inl a1] σ (.inr "java/util/NoSuchElementException") σ') : wz_E l mL_count hL_count [.inr (.inl 0), .inl a1, .inr (.inl 5001)] σ v 1 σ' v 1 6 := by
  refine wz_meth (by decide) (Nat.le_of_ble_eq_true rfl) ?_
  refine wz_aload_n (q := 1) dL_count_0 rfl rfl 2 rfl ?_
  refine wz_iconst (x := 0) (q := 2) dL_count_1 rfl (by decide) ?_
  refine wz_aload_n (q := 3) dL_count_2 rfl rfl 0 rfl ?_
  refine wz_iload_n (q := 4) dL_count_3 rfl rfl 1 rfl ?_
  exact wz_thr1 (As := [.inl a1]) (p2 := 13) hE mv_L_15 rfl (by decide) rfl dL_count_4 (by decide) (by decide) cl_L_18 (by decide) (Or.inl ⟨3, dL_count_12, rfl, by decide⟩) dL_count_13 (by decide) dL_count_14
theorem wk_count {l : Launch} (hl : l.stackTraces = false) {N : Nat} {R : Nat → Nat → Nat} {I J : Nat → Nat → Int32} {v : Int64} {a1 : Int32} {y : Int32 ⊕ String} {k : Int32} (h : f_X11_count N R 0 a1 I = some (y, J)) (hk : zo_k 1 0 y k) : ∃ (v' : Int64) (mc ms : Nat), mc ≤ 1 ∧ ms ≤ 6 ∧ (∀ r, y = .inl r → v' = r.toInt64) ∧ wz_E l mL_count hL_count [.inr (.inl 0), .inl a1, .inr (.inl 5001)] (I, R) v k (J, R) v' mc ms := by
  have h0 := e_X11_count hl h
  rcases y with r | E
  · have hk : k = 0 := hk
    subst hk
    have h1 : sm_E l 3 mX11_count [.inr (.inl 0), .inl a1] (I, R) (.inl (some (.inl r))) (J, R) := h0
    exact ⟨_, 0, 0, by decide, by decide, (fun r9 e9 => by cases e9; rfl), wk_count_ok h1⟩
  · rcases hk with ⟨rfl, h9, rfl⟩ | ⟨rfl, h9, rfl⟩
    · have h1 : sm_E l 3 mX11_count [.inr (.inl 0), .inl a1] (I, R) (.inr "java/util/NoSuchElementException") (J, R) := h0
      exact ⟨_, 1, 6, by decide, by decide, (fun r9 e9 => by cases e9), wk_count_n h1⟩
    · exact absurd rfl h9
abbrev mL_piece : sm_I := (yL_piece, cL_piece, 5, some .int)
abbrev hL_piece : List (Nat × Nat × Nat × Nat) := [(0, 10, 13, 18)]
theorem ls_piece : lz_ms 144 4 mL_piece hL_piece := ⟨sm_g4 127 (by decide +kernel) rfl, sm_g4 128 (by decide +kernel) rfl, in_L, sm_g4 129 (by decide +kernel) rfl, by decide, by decide, by decide +kernel, by decide⟩
set_option maxRecDepth 20000 in
theorem wk_piece_ok {l : Launch} {σ σ' : sm_M} {v : Int64} {a1 : Int32} {a2 : Int32} {r : Int32} (hE : sm_E l 2 mX11_piece [.inr (.inl 0), .inl a1, .inl a2] σ (.inl (some (.inl r))) σ') : wz_E l mL_piece hL_piece [.inr (.inl 0), .inl a1, .inl a2, .inr (.inl 5001)] σ v 0 σ' r.toInt64 0 0 := by
  refine wz_meth (by decide) (Nat.le_of_ble_eq_true rfl) ?_
  refine wz_aload_n (q := 1) dL_piece_0 rfl rfl 3 rfl ?_
  refine wz_iconst (x := 0) (q := 2) dL_piece_1 rfl (by decide) ?_
  refine wz_aload_n (q := 3) dL_piece_2 rfl rfl 0 rfl ?_
  refine wz_iload_n (q := 4) dL_piece_3 rfl rfl 1 rfl ?_
  refine wz_iload_n (q := 5) dL_piece_4 rfl rfl 2 rfl ?_
  exact wz_ok (As := [.inl a1, .inl a2]) (p1 := 8) (p2 := 9) (p3 := 10) (p4 := 17) hE mv_L_20 rfl (by decide) rfl dL_piece_5 rfl dL_piece_8 rfl dL_piece_9 rfl dL_piece_10 (by decide) dL_piece_17 dL_piece_18
set_option maxRecDepth 20000 in
theorem wk_piece_n {l : Launch} {σ σ' : sm_M} {v : Int64} {a1 : Int32} {a2 : Int32} (hE : sm_E l 2 mX11_piece [.inr (.inl 0), .inl a1, .inl a2] σ (.inr "java/util/NoSuchElementException") σ') : wz_E l mL_piece hL_piece [.inr (.inl 0), .inl a1, .inl a2, .inr (.inl 5001)] σ v 1 σ' v 1 6 := by
  refine wz_meth (by decide) (Nat.le_of_ble_eq_true rfl) ?_
  refine wz_aload_n (q := 1) dL_piece_0 rfl rfl 3 rfl ?_
  refine wz_iconst (x := 0) (q := 2) dL_piece_1 rfl (by decide) ?_
  refine wz_aload_n (q := 3) dL_piece_2 rfl rfl 0 rfl ?_
  refine wz_iload_n (q := 4) dL_piece_3 rfl rfl 1 rfl ?_
  refine wz_iload_n (q := 5) dL_piece_4 rfl rfl 2 rfl ?_
  exact wz_thr1 (As := [.inl a1, .inl a2]) (p2 := 15) hE mv_L_20 rfl (by decide) rfl dL_piece_5 (by decide) (by decide) cl_L_18 (by decide) (Or.inr ⟨4, dL_piece_13, rfl, by decide⟩) dL_piece_15 (by decide) dL_piece_16
theorem wk_piece {l : Launch} (hl : l.stackTraces = false) {N : Nat} {R : Nat → Nat → Nat} {I J : Nat → Nat → Int32} {v : Int64} {a1 : Int32} {a2 : Int32} {y : Int32 ⊕ String} {k : Int32} (h : f_X11_piece N R 0 a1 a2 I = some (y, J)) (hk : zo_k 1 0 y k) : ∃ (v' : Int64) (mc ms : Nat), mc ≤ 1 ∧ ms ≤ 6 ∧ (∀ r, y = .inl r → v' = r.toInt64) ∧ wz_E l mL_piece hL_piece [.inr (.inl 0), .inl a1, .inl a2, .inr (.inl 5001)] (I, R) v k (J, R) v' mc ms := by
  have h0 := e_X11_piece hl h
  rcases y with r | E
  · have hk : k = 0 := hk
    subst hk
    have h1 : sm_E l 2 mX11_piece [.inr (.inl 0), .inl a1, .inl a2] (I, R) (.inl (some (.inl r))) (J, R) := h0
    exact ⟨_, 0, 0, by decide, by decide, (fun r9 e9 => by cases e9; rfl), wk_piece_ok h1⟩
  · rcases hk with ⟨rfl, h9, rfl⟩ | ⟨rfl, h9, rfl⟩
    · have h1 : sm_E l 2 mX11_piece [.inr (.inl 0), .inl a1, .inl a2] (I, R) (.inr "java/util/NoSuchElementException") (J, R) := h0
      exact ⟨_, 1, 6, by decide, by decide, (fun r9 e9 => by cases e9), wk_piece_n h1⟩
    · exact absurd rfl h9
abbrev mL_bar : sm_I := (yL_bar, cL_bar, 5, some .int)
abbrev hL_bar : List (Nat × Nat × Nat × Nat) := [(0, 10, 13, 18)]
theorem ls_bar : lz_ms 148 4 mL_bar hL_bar := ⟨sm_g4 144 (by decide +kernel) rfl, sm_g4 145 (by decide +kernel) rfl, in_L, sm_g4 146 (by decide +kernel) rfl, by decide, by decide, by decide +kernel, by decide⟩
set_option maxRecDepth 20000 in
theorem wk_bar_ok {l : Launch} {σ σ' : sm_M} {v : Int64} {a1 : Int32} {a2 : Int32} {r : Int32} (hE : sm_E l 1 mX11_bar [.inr (.inl 0), .inl a1, .inl a2] σ (.inl (some (.inl r))) σ') : wz_E l mL_bar hL_bar [.inr (.inl 0), .inl a1, .inl a2, .inr (.inl 5001)] σ v 0 σ' r.toInt64 0 0 := by
  refine wz_meth (by decide) (Nat.le_of_ble_eq_true rfl) ?_
  refine wz_aload_n (q := 1) dL_bar_0 rfl rfl 3 rfl ?_
  refine wz_iconst (x := 0) (q := 2) dL_bar_1 rfl (by decide) ?_
  refine wz_aload_n (q := 3) dL_bar_2 rfl rfl 0 rfl ?_
  refine wz_iload_n (q := 4) dL_bar_3 rfl rfl 1 rfl ?_
  refine wz_iload_n (q := 5) dL_bar_4 rfl rfl 2 rfl ?_
  exact wz_ok (As := [.inl a1, .inl a2]) (p1 := 8) (p2 := 9) (p3 := 10) (p4 := 17) hE mv_L_24 rfl (by decide) rfl dL_bar_5 rfl dL_bar_8 rfl dL_bar_9 rfl dL_bar_10 (by decide) dL_bar_17 dL_bar_18
set_option maxRecDepth 20000 in
theorem wk_bar_n {l : Launch} {σ σ' : sm_M} {v : Int64} {a1 : Int32} {a2 : Int32} (hE : sm_E l 1 mX11_bar [.inr (.inl 0), .inl a1, .inl a2] σ (.inr "java/util/NoSuchElementException") σ') : wz_E l mL_bar hL_bar [.inr (.inl 0), .inl a1, .inl a2, .inr (.inl 5001)] σ v 1 σ' v 1 6 := by
  refine wz_meth (by decide) (Nat.le_of_ble_eq_true rfl) ?_
  refine wz_aload_n (q := 1) dL_bar_0 rfl rfl 3 rfl ?_
  refine wz_iconst (x := 0) (q := 2) dL_bar_1 rfl (by decide) ?_
  refine wz_aload_n (q := 3) dL_bar_2 rfl rfl 0 rfl ?_
  refine wz_iload_n (q := 4) dL_bar_3 rfl rfl 1 rfl ?_
  refine wz_iload_n (q := 5) dL_bar_4 rfl rfl 2 rfl ?_
  exact wz_thr1 (As := [.inl a1, .inl a2]) (p2 := 15) hE mv_L_24 rfl (by decide) rfl dL_bar_5 (by decide) (by decide) cl_L_18 (by decide) (Or.inr ⟨4, dL_bar_13, rfl, by decide⟩) dL_bar_15 (by decide) dL_bar_16
theorem wk_bar {l : Launch} (hl : l.stackTraces = false) {N : Nat} {R : Nat → Nat → Nat} {I J : Nat → Nat → Int32} {v : Int64} {a1 : Int32} {a2 : Int32} {y : Int32 ⊕ String} {k : Int32} (h : f_X11_bar N R 0 a1 a2 I = some (y, J)) (hk : zo_k 1 0 y k) : ∃ (v' : Int64) (mc ms : Nat), mc ≤ 1 ∧ ms ≤ 6 ∧ (∀ r, y = .inl r → v' = r.toInt64) ∧ wz_E l mL_bar hL_bar [.inr (.inl 0), .inl a1, .inl a2, .inr (.inl 5001)] (I, R) v k (J, R) v' mc ms := by
  have h0 := e_X11_bar hl h
  rcases y with r | E
  · have hk : k = 0 := hk
    subst hk
    have h1 : sm_E l 1 mX11_bar [.inr (.inl 0), .inl a1, .inl a2] (I, R) (.inl (some (.inl r))) (J, R) := h0
    exact ⟨_, 0, 0, by decide, by decide, (fun r9 e9 => by cases e9; rfl), wk_bar_ok h1⟩
  · rcases hk with ⟨rfl, h9, rfl⟩ | ⟨rfl, h9, rfl⟩
    · have h1 : sm_E l 1 mX11_bar [.inr (.inl 0), .inl a1, .inl a2] (I, R) (.inr "java/util/NoSuchElementException") (J, R) := h0
      exact ⟨_, 1, 6, by decide, by decide, (fun r9 e9 => by cases e9), wk_bar_n h1⟩
    · exact absurd rfl h9
abbrev mL_pupil : sm_I := (yL_pupil, cL_pupil, 5, some .int)
abbrev hL_pupil : List (Nat × Nat × Nat × Nat) := [(0, 10, 13, 18)]
theorem ls_pupil : lz_ms 151 4 mL_pupil hL_pupil := ⟨sm_g4 152 (by decide +kernel) rfl, sm_g4 153 (by decide +kernel) rfl, in_L, sm_g4 154 (by decide +kernel) rfl, by decide, by decide, by decide +kernel, by decide⟩
set_option maxRecDepth 20000 in
theorem wk_pupil_ok {l : Launch} {σ σ' : sm_M} {v : Int64} {a1 : Int32} {a2 : Int32} {r : Int32} (hE : sm_E l 4 mX11_pupil [.inr (.inl 0), .inl a1, .inl a2] σ (.inl (some (.inl r))) σ') : wz_E l mL_pupil hL_pupil [.inr (.inl 0), .inl a1, .inl a2, .inr (.inl 5001)] σ v 0 σ' r.toInt64 0 0 := by
  refine wz_meth (by decide) (Nat.le_of_ble_eq_true rfl) ?_
  refine wz_aload_n (q := 1) dL_pupil_0 rfl rfl 3 rfl ?_
  refine wz_iconst (x := 0) (q := 2) dL_pupil_1 rfl (by decide) ?_
  refine wz_aload_n (q := 3) dL_pupil_2 rfl rfl 0 rfl ?_
  refine wz_iload_n (q := 4) dL_pupil_3 rfl rfl 1 rfl ?_
  refine wz_iload_n (q := 5) dL_pupil_4 rfl rfl 2 rfl ?_
  exact wz_ok (As := [.inl a1, .inl a2]) (p1 := 8) (p2 := 9) (p3 := 10) (p4 := 17) hE mv_L_27 rfl (by decide) rfl dL_pupil_5 rfl dL_pupil_8 rfl dL_pupil_9 rfl dL_pupil_10 (by decide) dL_pupil_17 dL_pupil_18
set_option maxRecDepth 20000 in
theorem wk_pupil_n {l : Launch} {σ σ' : sm_M} {v : Int64} {a1 : Int32} {a2 : Int32} (hE : sm_E l 4 mX11_pupil [.inr (.inl 0), .inl a1, .inl a2] σ (.inr "java/util/NoSuchElementException") σ') : wz_E l mL_pupil hL_pupil [.inr (.inl 0), .inl a1, .inl a2, .inr (.inl 5001)] σ v 1 σ' v 1 6 := by
  refine wz_meth (by decide) (Nat.le_of_ble_eq_true rfl) ?_
  refine wz_aload_n (q := 1) dL_pupil_0 rfl rfl 3 rfl ?_
  refine wz_iconst (x := 0) (q := 2) dL_pupil_1 rfl (by decide) ?_
  refine wz_aload_n (q := 3) dL_pupil_2 rfl rfl 0 rfl ?_
  refine wz_iload_n (q := 4) dL_pupil_3 rfl rfl 1 rfl ?_
  refine wz_iload_n (q := 5) dL_pupil_4 rfl rfl 2 rfl ?_
  exact wz_thr1 (As := [.inl a1, .inl a2]) (p2 := 15) hE mv_L_27 rfl (by decide) rfl dL_pupil_5 (by decide) (by decide) cl_L_18 (by decide) (Or.inr ⟨4, dL_pupil_13, rfl, by decide⟩) dL_pupil_15 (by decide) dL_pupil_16
theorem wk_pupil {l : Launch} (hl : l.stackTraces = false) {N : Nat} {R : Nat → Nat → Nat} {I J : Nat → Nat → Int32} {v : Int64} {a1 : Int32} {a2 : Int32} {y : Int32 ⊕ String} {k : Int32} (h : f_X11_pupil N R 0 a1 a2 I = some (y, J)) (hk : zo_k 1 0 y k) : ∃ (v' : Int64) (mc ms : Nat), mc ≤ 1 ∧ ms ≤ 6 ∧ (∀ r, y = .inl r → v' = r.toInt64) ∧ wz_E l mL_pupil hL_pupil [.inr (.inl 0), .inl a1, .inl a2, .inr (.inl 5001)] (I, R) v k (J, R) v' mc ms := by
  have h0 := e_X11_pupil hl h
  rcases y with r | E
  · have hk : k = 0 := hk
    subst hk
    have h1 : sm_E l 4 mX11_pupil [.inr (.inl 0), .inl a1, .inl a2] (I, R) (.inl (some (.inl r))) (J, R) := h0
    exact ⟨_, 0, 0, by decide, by decide, (fun r9 e9 => by cases e9; rfl), wk_pupil_ok h1⟩
  · rcases hk with ⟨rfl, h9, rfl⟩ | ⟨rfl, h9, rfl⟩
    · have h1 : sm_E l 4 mX11_pupil [.inr (.inl 0), .inl a1, .inl a2] (I, R) (.inr "java/util/NoSuchElementException") (J, R) := h0
      exact ⟨_, 1, 6, by decide, by decide, (fun r9 e9 => by cases e9), wk_pupil_n h1⟩
    · exact absurd rfl h9
abbrev mL_door : sm_I := (yL_door, cL_door, 5, some .int)
abbrev hL_door : List (Nat × Nat × Nat × Nat) := [(0, 10, 13, 18)]
theorem ls_door : lz_ms 158 4 mL_door hL_door := ⟨sm_g4 170 (by decide +kernel) rfl, sm_g4 171 (by decide +kernel) rfl, in_L, sm_g4 172 (by decide +kernel) rfl, by decide, by decide, by decide +kernel, by decide⟩
set_option maxRecDepth 20000 in
theorem wk_door_ok {l : Launch} {σ σ' : sm_M} {v : Int64} {a1 : Int32} {a2 : Int32} {r : Int32} (hE : sm_E l 4 mX11_door [.inr (.inl 0), .inl a1, .inl a2] σ (.inl (some (.inl r))) σ') : wz_E l mL_door hL_door [.inr (.inl 0), .inl a1, .inl a2, .inr (.inl 5001)] σ v 0 σ' r.toInt64 0 0 := by
  refine wz_meth (by decide) (Nat.le_of_ble_eq_true rfl) ?_
  refine wz_aload_n (q := 1) dL_door_0 rfl rfl 3 rfl ?_
  refine wz_iconst (x := 0) (q := 2) dL_door_1 rfl (by decide) ?_
  refine wz_aload_n (q := 3) dL_door_2 rfl rfl 0 rfl ?_
  refine wz_iload_n (q := 4) dL_door_3 rfl rfl 1 rfl ?_
  refine wz_iload_n (q := 5) dL_door_4 rfl rfl 2 rfl ?_
  exact wz_ok (As := [.inl a1, .inl a2]) (p1 := 8) (p2 := 9) (p3 := 10) (p4 := 17) hE mv_L_30 rfl (by decide) rfl dL_door_5 rfl dL_door_8 rfl dL_door_9 rfl dL_door_10 (by decide) dL_door_17 dL_door_18
set_option maxRecDepth 20000 in
theorem wk_door_n {l : Launch} {σ σ' : sm_M} {v : Int64} {a1 : Int32} {a2 : Int32} (hE : sm_E l 4 mX11_door [.inr (.inl 0), .inl a1, .inl a2] σ (.inr "java/util/NoSuchElementException") σ') : wz_E l mL_door hL_door [.inr (.inl 0), .inl a1, .inl a2, .inr (.inl 5001)] σ v 1 σ' v 1 6 := by
  refine wz_meth (by decide) (Nat.le_of_ble_eq_true rfl) ?_
  refine wz_aload_n (q := 1) dL_door_0 rfl rfl 3 rfl ?_
  refine wz_iconst (x := 0) (q := 2) dL_door_1 rfl (by decide) ?_
  refine wz_aload_n (q := 3) dL_door_2 rfl rfl 0 rfl ?_
  refine wz_iload_n (q := 4) dL_door_3 rfl rfl 1 rfl ?_
  refine wz_iload_n (q := 5) dL_door_4 rfl rfl 2 rfl ?_
  exact wz_thr1 (As := [.inl a1, .inl a2]) (p2 := 15) hE mv_L_30 rfl (by decide) rfl dL_door_5 (by decide) (by decide) cl_L_18 (by decide) (Or.inr ⟨4, dL_door_13, rfl, by decide⟩) dL_door_15 (by decide) dL_door_16
theorem wk_door {l : Launch} (hl : l.stackTraces = false) {N : Nat} {R : Nat → Nat → Nat} {I J : Nat → Nat → Int32} {v : Int64} {a1 : Int32} {a2 : Int32} {y : Int32 ⊕ String} {k : Int32} (h : f_X11_door N R 0 a1 a2 I = some (y, J)) (hk : zo_k 1 0 y k) : ∃ (v' : Int64) (mc ms : Nat), mc ≤ 1 ∧ ms ≤ 6 ∧ (∀ r, y = .inl r → v' = r.toInt64) ∧ wz_E l mL_door hL_door [.inr (.inl 0), .inl a1, .inl a2, .inr (.inl 5001)] (I, R) v k (J, R) v' mc ms := by
  have h0 := e_X11_door hl h
  rcases y with r | E
  · have hk : k = 0 := hk
    subst hk
    have h1 : sm_E l 4 mX11_door [.inr (.inl 0), .inl a1, .inl a2] (I, R) (.inl (some (.inl r))) (J, R) := h0
    exact ⟨_, 0, 0, by decide, by decide, (fun r9 e9 => by cases e9; rfl), wk_door_ok h1⟩
  · rcases hk with ⟨rfl, h9, rfl⟩ | ⟨rfl, h9, rfl⟩
    · have h1 : sm_E l 4 mX11_door [.inr (.inl 0), .inl a1, .inl a2] (I, R) (.inr "java/util/NoSuchElementException") (J, R) := h0
      exact ⟨_, 1, 6, by decide, by decide, (fun r9 e9 => by cases e9), wk_door_n h1⟩
    · exact absurd rfl h9
abbrev mL_gloves : sm_I := (yL_gloves, cL_gloves, 5, some .int)
abbrev hL_gloves : List (Nat × Nat × Nat × Nat) := [(0, 10, 13, 18)]
theorem ls_gloves : lz_ms 161 4 mL_gloves hL_gloves := ⟨sm_g4 191 (by decide +kernel) rfl, sm_g4 192 (by decide +kernel) rfl, in_L, sm_g4 193 (by decide +kernel) rfl, by decide, by decide, by decide +kernel, by decide⟩
set_option maxRecDepth 20000 in
theorem wk_gloves_ok {l : Launch} {σ σ' : sm_M} {v : Int64} {a1 : Int32} {a2 : Int32} {r : Int32} (hE : sm_E l 3 mX11_gloves [.inr (.inl 0), .inl a1, .inl a2] σ (.inl (some (.inl r))) σ') : wz_E l mL_gloves hL_gloves [.inr (.inl 0), .inl a1, .inl a2, .inr (.inl 5001)] σ v 0 σ' r.toInt64 0 0 := by
  refine wz_meth (by decide) (Nat.le_of_ble_eq_true rfl) ?_
  refine wz_aload_n (q := 1) dL_gloves_0 rfl rfl 3 rfl ?_
  refine wz_iconst (x := 0) (q := 2) dL_gloves_1 rfl (by decide) ?_
  refine wz_aload_n (q := 3) dL_gloves_2 rfl rfl 0 rfl ?_
  refine wz_iload_n (q := 4) dL_gloves_3 rfl rfl 1 rfl ?_
  refine wz_iload_n (q := 5) dL_gloves_4 rfl rfl 2 rfl ?_
  exact wz_ok (As := [.inl a1, .inl a2]) (p1 := 8) (p2 := 9) (p3 := 10) (p4 := 17) hE mv_L_33 rfl (by decide) rfl dL_gloves_5 rfl dL_gloves_8 rfl dL_gloves_9 rfl dL_gloves_10 (by decide) dL_gloves_17 dL_gloves_18
set_option maxRecDepth 20000 in
theorem wk_gloves_n {l : Launch} {σ σ' : sm_M} {v : Int64} {a1 : Int32} {a2 : Int32} (hE : sm_E l 3 mX11_gloves [.inr (.inl 0), .inl a1, .inl a2] σ (.inr "java/util/NoSuchElementException") σ') : wz_E l mL_gloves hL_gloves [.inr (.inl 0), .inl a1, .inl a2, .inr (.inl 5001)] σ v 1 σ' v 1 6 := by
  refine wz_meth (by decide) (Nat.le_of_ble_eq_true rfl) ?_
  refine wz_aload_n (q := 1) dL_gloves_0 rfl rfl 3 rfl ?_
  refine wz_iconst (x := 0) (q := 2) dL_gloves_1 rfl (by decide) ?_
  refine wz_aload_n (q := 3) dL_gloves_2 rfl rfl 0 rfl ?_
  refine wz_iload_n (q := 4) dL_gloves_3 rfl rfl 1 rfl ?_
  refine wz_iload_n (q := 5) dL_gloves_4 rfl rfl 2 rfl ?_
  exact wz_thr1 (As := [.inl a1, .inl a2]) (p2 := 15) hE mv_L_33 rfl (by decide) rfl dL_gloves_5 (by decide) (by decide) cl_L_18 (by decide) (Or.inr ⟨4, dL_gloves_13, rfl, by decide⟩) dL_gloves_15 (by decide) dL_gloves_16
theorem wk_gloves {l : Launch} (hl : l.stackTraces = false) {N : Nat} {R : Nat → Nat → Nat} {I J : Nat → Nat → Int32} {v : Int64} {a1 : Int32} {a2 : Int32} {y : Int32 ⊕ String} {k : Int32} (h : f_X11_gloves N R 0 a1 a2 I = some (y, J)) (hk : zo_k 1 0 y k) : ∃ (v' : Int64) (mc ms : Nat), mc ≤ 1 ∧ ms ≤ 6 ∧ (∀ r, y = .inl r → v' = r.toInt64) ∧ wz_E l mL_gloves hL_gloves [.inr (.inl 0), .inl a1, .inl a2, .inr (.inl 5001)] (I, R) v k (J, R) v' mc ms := by
  have h0 := e_X11_gloves hl h
  rcases y with r | E
  · have hk : k = 0 := hk
    subst hk
    have h1 : sm_E l 3 mX11_gloves [.inr (.inl 0), .inl a1, .inl a2] (I, R) (.inl (some (.inl r))) (J, R) := h0
    exact ⟨_, 0, 0, by decide, by decide, (fun r9 e9 => by cases e9; rfl), wk_gloves_ok h1⟩
  · rcases hk with ⟨rfl, h9, rfl⟩ | ⟨rfl, h9, rfl⟩
    · have h1 : sm_E l 3 mX11_gloves [.inr (.inl 0), .inl a1, .inl a2] (I, R) (.inr "java/util/NoSuchElementException") (J, R) := h0
      exact ⟨_, 1, 6, by decide, by decide, (fun r9 e9 => by cases e9), wk_gloves_n h1⟩
    · exact absurd rfl h9
abbrev mL_begin : sm_I := (yL_begin, cL_begin, 5, some .int)
abbrev hL_begin : List (Nat × Nat × Nat × Nat) := [(0, 10, 13, 18)]
theorem ls_begin : lz_ms 164 4 mL_begin hL_begin := ⟨sm_g4 199 (by decide +kernel) rfl, sm_g4 200 (by decide +kernel) rfl, in_L, sm_g4 201 (by decide +kernel) rfl, by decide, by decide, by decide +kernel, by decide⟩
set_option maxRecDepth 20000 in
theorem wk_begin_ok {l : Launch} {σ σ' : sm_M} {v : Int64} {a1 : Int32} {a2 : Int32} {r : Int32} (hE : sm_E l 3 mX11_begin [.inr (.inl 0), .inl a1, .inl a2] σ (.inl (some (.inl r))) σ') : wz_E l mL_begin hL_begin [.inr (.inl 0), .inl a1, .inl a2, .inr (.inl 5001)] σ v 0 σ' r.toInt64 0 0 := by
  refine wz_meth (by decide) (Nat.le_of_ble_eq_true rfl) ?_
  refine wz_aload_n (q := 1) dL_begin_0 rfl rfl 3 rfl ?_
  refine wz_iconst (x := 0) (q := 2) dL_begin_1 rfl (by decide) ?_
  refine wz_aload_n (q := 3) dL_begin_2 rfl rfl 0 rfl ?_
  refine wz_iload_n (q := 4) dL_begin_3 rfl rfl 1 rfl ?_
  refine wz_iload_n (q := 5) dL_begin_4 rfl rfl 2 rfl ?_
  exact wz_ok (As := [.inl a1, .inl a2]) (p1 := 8) (p2 := 9) (p3 := 10) (p4 := 17) hE mv_L_36 rfl (by decide) rfl dL_begin_5 rfl dL_begin_8 rfl dL_begin_9 rfl dL_begin_10 (by decide) dL_begin_17 dL_begin_18
set_option maxRecDepth 20000 in
theorem wk_begin_n {l : Launch} {σ σ' : sm_M} {v : Int64} {a1 : Int32} {a2 : Int32} (hE : sm_E l 3 mX11_begin [.inr (.inl 0), .inl a1, .inl a2] σ (.inr "java/util/NoSuchElementException") σ') : wz_E l mL_begin hL_begin [.inr (.inl 0), .inl a1, .inl a2, .inr (.inl 5001)] σ v 1 σ' v 1 6 := by
  refine wz_meth (by decide) (Nat.le_of_ble_eq_true rfl) ?_
  refine wz_aload_n (q := 1) dL_begin_0 rfl rfl 3 rfl ?_
  refine wz_iconst (x := 0) (q := 2) dL_begin_1 rfl (by decide) ?_
  refine wz_aload_n (q := 3) dL_begin_2 rfl rfl 0 rfl ?_
  refine wz_iload_n (q := 4) dL_begin_3 rfl rfl 1 rfl ?_
  refine wz_iload_n (q := 5) dL_begin_4 rfl rfl 2 rfl ?_
  exact wz_thr1 (As := [.inl a1, .inl a2]) (p2 := 15) hE mv_L_36 rfl (by decide) rfl dL_begin_5 (by decide) (by decide) cl_L_18 (by decide) (Or.inr ⟨4, dL_begin_13, rfl, by decide⟩) dL_begin_15 (by decide) dL_begin_16
theorem wk_begin {l : Launch} (hl : l.stackTraces = false) {N : Nat} {R : Nat → Nat → Nat} {I J : Nat → Nat → Int32} {v : Int64} {a1 : Int32} {a2 : Int32} {y : Int32 ⊕ String} {k : Int32} (h : f_X11_begin N R 0 a1 a2 I = some (y, J)) (hk : zo_k 1 0 y k) : ∃ (v' : Int64) (mc ms : Nat), mc ≤ 1 ∧ ms ≤ 6 ∧ (∀ r, y = .inl r → v' = r.toInt64) ∧ wz_E l mL_begin hL_begin [.inr (.inl 0), .inl a1, .inl a2, .inr (.inl 5001)] (I, R) v k (J, R) v' mc ms := by
  have h0 := e_X11_begin hl h
  rcases y with r | E
  · have hk : k = 0 := hk
    subst hk
    have h1 : sm_E l 3 mX11_begin [.inr (.inl 0), .inl a1, .inl a2] (I, R) (.inl (some (.inl r))) (J, R) := h0
    exact ⟨_, 0, 0, by decide, by decide, (fun r9 e9 => by cases e9; rfl), wk_begin_ok h1⟩
  · rcases hk with ⟨rfl, h9, rfl⟩ | ⟨rfl, h9, rfl⟩
    · have h1 : sm_E l 3 mX11_begin [.inr (.inl 0), .inl a1, .inl a2] (I, R) (.inr "java/util/NoSuchElementException") (J, R) := h0
      exact ⟨_, 1, 6, by decide, by decide, (fun r9 e9 => by cases e9), wk_begin_n h1⟩
    · exact absurd rfl h9
abbrev mL_then : sm_I := (yL_then, cL_then, 6, some .int)
abbrev hL_then : List (Nat × Nat × Nat × Nat) := [(0, 12, 15, 18), (0, 12, 19, 13)]
theorem ls_then : lz_ms 175 5 mL_then hL_then := ⟨sm_g4 206 (by decide +kernel) rfl, sm_g4 207 (by decide +kernel) rfl, in_L, sm_g4 208 (by decide +kernel) rfl, by decide, by decide, by decide +kernel, by decide⟩
set_option maxRecDepth 20000 in
theorem wk_then_ok {l : Launch} {σ σ' : sm_M} {v : Int64} {a1 : Int32} {a2 : Int32} {a3 : Int32} {r : Int32} (hE : sm_E l 4 mX11_then [.inr (.inl 0), .inl a1, .inl a2, .inl a3] σ (.inl (some (.inl r))) σ') : wz_E l mL_then hL_then [.inr (.inl 0), .inl a1, .inl a2, .inl a3, .inr (.inl 5001)] σ v 0 σ' r.toInt64 0 0 := by
  refine wz_meth (by decide) (Nat.le_of_ble_eq_true rfl) ?_
  refine wz_aload (q := 2) dL_then_0 rfl 4 rfl ?_
  refine wz_iconst (x := 0) (q := 3) dL_then_2 rfl (by decide) ?_
  refine wz_aload_n (q := 4) dL_then_3 rfl rfl 0 rfl ?_
  refine wz_iload_n (q := 5) dL_then_4 rfl rfl 1 rfl ?_
  refine wz_iload_n (q := 6) dL_then_5 rfl rfl 2 rfl ?_
  refine wz_iload_n (q := 7) dL_then_6 rfl rfl 3 rfl ?_
  exact wz_ok (As := [.inl a1, .inl a2, .inl a3]) (p1 := 10) (p2 := 11) (p3 := 12) (p4 := 23) hE mv_L_39 rfl (by decide) rfl dL_then_7 rfl dL_then_10 rfl dL_then_11 rfl dL_then_12 (by decide) dL_then_23 dL_then_24
set_option maxRecDepth 20000 in
theorem wk_then_n {l : Launch} {σ σ' : sm_M} {v : Int64} {a1 : Int32} {a2 : Int32} {a3 : Int32} (hE : sm_E l 4 mX11_then [.inr (.inl 0), .inl a1, .inl a2, .inl a3] σ (.inr "java/util/NoSuchElementException") σ') : wz_E l mL_then hL_then [.inr (.inl 0), .inl a1, .inl a2, .inl a3, .inr (.inl 5001)] σ v 1 σ' v 1 6 := by
  refine wz_meth (by decide) (Nat.le_of_ble_eq_true rfl) ?_
  refine wz_aload (q := 2) dL_then_0 rfl 4 rfl ?_
  refine wz_iconst (x := 0) (q := 3) dL_then_2 rfl (by decide) ?_
  refine wz_aload_n (q := 4) dL_then_3 rfl rfl 0 rfl ?_
  refine wz_iload_n (q := 5) dL_then_4 rfl rfl 1 rfl ?_
  refine wz_iload_n (q := 6) dL_then_5 rfl rfl 2 rfl ?_
  refine wz_iload_n (q := 7) dL_then_6 rfl rfl 3 rfl ?_
  exact wz_thr1 (As := [.inl a1, .inl a2, .inl a3]) (p2 := 17) hE mv_L_39 rfl (by decide) rfl dL_then_7 (by decide) (by decide) cl_L_18 (by decide) (Or.inr ⟨5, dL_then_15, rfl, by decide⟩) dL_then_17 (by decide) dL_then_18
set_option maxRecDepth 20000 in
theorem wk_then_i {l : Launch} {σ σ' : sm_M} {v : Int64} {a1 : Int32} {a2 : Int32} {a3 : Int32} (hE : sm_E l 4 mX11_then [.inr (.inl 0), .inl a1, .inl a2, .inl a3] σ (.inr "java/lang/IllegalArgumentException") σ') : wz_E l mL_then hL_then [.inr (.inl 0), .inl a1, .inl a2, .inl a3, .inr (.inl 5001)] σ v 2 σ' v 1 6 := by
  refine wz_meth (by decide) (Nat.le_of_ble_eq_true rfl) ?_
  refine wz_aload (q := 2) dL_then_0 rfl 4 rfl ?_
  refine wz_iconst (x := 0) (q := 3) dL_then_2 rfl (by decide) ?_
  refine wz_aload_n (q := 4) dL_then_3 rfl rfl 0 rfl ?_
  refine wz_iload_n (q := 5) dL_then_4 rfl rfl 1 rfl ?_
  refine wz_iload_n (q := 6) dL_then_5 rfl rfl 2 rfl ?_
  refine wz_iload_n (q := 7) dL_then_6 rfl rfl 3 rfl ?_
  exact wz_thr2 (As := [.inl a1, .inl a2, .inl a3]) (p2 := 21) hE mv_L_39 rfl (by decide) rfl dL_then_7 (by decide) (by decide) cl_L_18 (by decide) (by decide) cl_L_13 (Or.inr ⟨5, dL_then_19, rfl, by decide⟩) dL_then_21 (by decide) dL_then_22
theorem wk_then {l : Launch} (hl : l.stackTraces = false) {N : Nat} {R : Nat → Nat → Nat} {I J : Nat → Nat → Int32} {v : Int64} {a1 : Int32} {a2 : Int32} {a3 : Int32} {y : Int32 ⊕ String} {k : Int32} (h : f_X11_then N R 0 a1 a2 a3 I = some (y, J)) (hk : zo_k 1 2 y k) : ∃ (v' : Int64) (mc ms : Nat), mc ≤ 1 ∧ ms ≤ 6 ∧ (∀ r, y = .inl r → v' = r.toInt64) ∧ wz_E l mL_then hL_then [.inr (.inl 0), .inl a1, .inl a2, .inl a3, .inr (.inl 5001)] (I, R) v k (J, R) v' mc ms := by
  have h0 := e_X11_then hl h
  rcases y with r | E
  · have hk : k = 0 := hk
    subst hk
    have h1 : sm_E l 4 mX11_then [.inr (.inl 0), .inl a1, .inl a2, .inl a3] (I, R) (.inl (some (.inl r))) (J, R) := h0
    exact ⟨_, 0, 0, by decide, by decide, (fun r9 e9 => by cases e9; rfl), wk_then_ok h1⟩
  · rcases hk with ⟨rfl, h9, rfl⟩ | ⟨rfl, h9, rfl⟩
    · have h1 : sm_E l 4 mX11_then [.inr (.inl 0), .inl a1, .inl a2, .inl a3] (I, R) (.inr "java/util/NoSuchElementException") (J, R) := h0
      exact ⟨_, 1, 6, by decide, by decide, (fun r9 e9 => by cases e9), wk_then_n h1⟩
    · have h1 : sm_E l 4 mX11_then [.inr (.inl 0), .inl a1, .inl a2, .inl a3] (I, R) (.inr "java/lang/IllegalArgumentException") (J, R) := h0
      exact ⟨_, 1, 6, by decide, by decide, (fun r9 e9 => by cases e9), wk_then_i h1⟩
abbrev mL_done : sm_I := (yL_done, cL_done, 4, some .int)
abbrev hL_done : List (Nat × Nat × Nat × Nat) := [(0, 9, 12, 18)]
theorem ls_done : lz_ms 179 3 mL_done hL_done := ⟨sm_g4 221 (by decide +kernel) rfl, sm_g4 222 (by decide +kernel) rfl, in_L, sm_g4 223 (by decide +kernel) rfl, by decide, by decide, by decide +kernel, by decide⟩
set_option maxRecDepth 20000 in
theorem wk_done_ok {l : Launch} {σ σ' : sm_M} {v : Int64} {a1 : Int32} {r : Int32} (hE : sm_E l 5 mX11_done [.inr (.inl 0), .inl a1] σ (.inl (some (.inl r))) σ') : wz_E l mL_done hL_done [.inr (.inl 0), .inl a1, .inr (.inl 5001)] σ v 0 σ' r.toInt64 0 0 := by
  refine wz_meth (by decide) (Nat.le_of_ble_eq_true rfl) ?_
  refine wz_aload_n (q := 1) dL_done_0 rfl rfl 2 rfl ?_
  refine wz_iconst (x := 0) (q := 2) dL_done_1 rfl (by decide) ?_
  refine wz_aload_n (q := 3) dL_done_2 rfl rfl 0 rfl ?_
  refine wz_iload_n (q := 4) dL_done_3 rfl rfl 1 rfl ?_
  exact wz_ok (As := [.inl a1]) (p1 := 7) (p2 := 8) (p3 := 9) (p4 := 15) hE mv_L_43 rfl (by decide) rfl dL_done_4 rfl dL_done_7 rfl dL_done_8 rfl dL_done_9 (by decide) dL_done_15 dL_done_16
set_option maxRecDepth 20000 in
theorem wk_done_n {l : Launch} {σ σ' : sm_M} {v : Int64} {a1 : Int32} (hE : sm_E l 5 mX11_done [.inr (.inl 0), .inl a1] σ (.inr "java/util/NoSuchElementException") σ') : wz_E l mL_done hL_done [.inr (.inl 0), .inl a1, .inr (.inl 5001)] σ v 1 σ' v 1 6 := by
  refine wz_meth (by decide) (Nat.le_of_ble_eq_true rfl) ?_
  refine wz_aload_n (q := 1) dL_done_0 rfl rfl 2 rfl ?_
  refine wz_iconst (x := 0) (q := 2) dL_done_1 rfl (by decide) ?_
  refine wz_aload_n (q := 3) dL_done_2 rfl rfl 0 rfl ?_
  refine wz_iload_n (q := 4) dL_done_3 rfl rfl 1 rfl ?_
  exact wz_thr1 (As := [.inl a1]) (p2 := 13) hE mv_L_43 rfl (by decide) rfl dL_done_4 (by decide) (by decide) cl_L_18 (by decide) (Or.inl ⟨3, dL_done_12, rfl, by decide⟩) dL_done_13 (by decide) dL_done_14
theorem wk_done {l : Launch} (hl : l.stackTraces = false) {N : Nat} {R : Nat → Nat → Nat} {I J : Nat → Nat → Int32} {v : Int64} {a1 : Int32} {y : Int32 ⊕ String} {k : Int32} (h : f_X11_done N R 0 a1 I = some (y, J)) (hk : zo_k 1 0 y k) : ∃ (v' : Int64) (mc ms : Nat), mc ≤ 1 ∧ ms ≤ 6 ∧ (∀ r, y = .inl r → v' = r.toInt64) ∧ wz_E l mL_done hL_done [.inr (.inl 0), .inl a1, .inr (.inl 5001)] (I, R) v k (J, R) v' mc ms := by
  have h0 := e_X11_done hl h
  rcases y with r | E
  · have hk : k = 0 := hk
    subst hk
    have h1 : sm_E l 5 mX11_done [.inr (.inl 0), .inl a1] (I, R) (.inl (some (.inl r))) (J, R) := h0
    exact ⟨_, 0, 0, by decide, by decide, (fun r9 e9 => by cases e9; rfl), wk_done_ok h1⟩
  · rcases hk with ⟨rfl, h9, rfl⟩ | ⟨rfl, h9, rfl⟩
    · have h1 : sm_E l 5 mX11_done [.inr (.inl 0), .inl a1] (I, R) (.inr "java/util/NoSuchElementException") (J, R) := h0
      exact ⟨_, 1, 6, by decide, by decide, (fun r9 e9 => by cases e9), wk_done_n h1⟩
    · exact absurd rfl h9
abbrev mL_heard : sm_I := (yL_heard, cL_heard, 4, some .int)
abbrev hL_heard : List (Nat × Nat × Nat × Nat) := [(0, 9, 12, 13)]
theorem ls_heard : lz_ms 182 3 mL_heard hL_heard := ⟨sm_g4 228 (by decide +kernel) rfl, sm_g4 229 (by decide +kernel) rfl, in_L, sm_g4 230 (by decide +kernel) rfl, by decide, by decide, by decide +kernel, by decide⟩
set_option maxRecDepth 20000 in
theorem wk_heard_ok {l : Launch} {σ σ' : sm_M} {v : Int64} {a1 : Int32} {r : Int32} (hE : sm_E l 4 mX11_heard [.inr (.inl 0), .inl a1] σ (.inl (some (.inl r))) σ') : wz_E l mL_heard hL_heard [.inr (.inl 0), .inl a1, .inr (.inl 5001)] σ v 0 σ' r.toInt64 0 0 := by
  refine wz_meth (by decide) (Nat.le_of_ble_eq_true rfl) ?_
  refine wz_aload_n (q := 1) dL_heard_0 rfl rfl 2 rfl ?_
  refine wz_iconst (x := 0) (q := 2) dL_heard_1 rfl (by decide) ?_
  refine wz_aload_n (q := 3) dL_heard_2 rfl rfl 0 rfl ?_
  refine wz_iload_n (q := 4) dL_heard_3 rfl rfl 1 rfl ?_
  exact wz_ok (As := [.inl a1]) (p1 := 7) (p2 := 8) (p3 := 9) (p4 := 15) hE mv_L_46 rfl (by decide) rfl dL_heard_4 rfl dL_heard_7 rfl dL_heard_8 rfl dL_heard_9 (by decide) dL_heard_15 dL_heard_16
set_option maxRecDepth 20000 in
theorem wk_heard_i {l : Launch} {σ σ' : sm_M} {v : Int64} {a1 : Int32} (hE : sm_E l 4 mX11_heard [.inr (.inl 0), .inl a1] σ (.inr "java/lang/IllegalArgumentException") σ') : wz_E l mL_heard hL_heard [.inr (.inl 0), .inl a1, .inr (.inl 5001)] σ v 1 σ' v 1 6 := by
  refine wz_meth (by decide) (Nat.le_of_ble_eq_true rfl) ?_
  refine wz_aload_n (q := 1) dL_heard_0 rfl rfl 2 rfl ?_
  refine wz_iconst (x := 0) (q := 2) dL_heard_1 rfl (by decide) ?_
  refine wz_aload_n (q := 3) dL_heard_2 rfl rfl 0 rfl ?_
  refine wz_iload_n (q := 4) dL_heard_3 rfl rfl 1 rfl ?_
  exact wz_thr1 (As := [.inl a1]) (p2 := 13) hE mv_L_46 rfl (by decide) rfl dL_heard_4 (by decide) (by decide) cl_L_13 (by decide) (Or.inl ⟨3, dL_heard_12, rfl, by decide⟩) dL_heard_13 (by decide) dL_heard_14
theorem wk_heard {l : Launch} (hl : l.stackTraces = false) {N : Nat} {R : Nat → Nat → Nat} {I J : Nat → Nat → Int32} {v : Int64} {a1 : Int32} {y : Int32 ⊕ String} {k : Int32} (h : f_X11_heard N R 0 a1 I = some (y, J)) (hk : zo_k 0 1 y k) : ∃ (v' : Int64) (mc ms : Nat), mc ≤ 1 ∧ ms ≤ 6 ∧ (∀ r, y = .inl r → v' = r.toInt64) ∧ wz_E l mL_heard hL_heard [.inr (.inl 0), .inl a1, .inr (.inl 5001)] (I, R) v k (J, R) v' mc ms := by
  have h0 := e_X11_heard hl h
  rcases y with r | E
  · have hk : k = 0 := hk
    subst hk
    have h1 : sm_E l 4 mX11_heard [.inr (.inl 0), .inl a1] (I, R) (.inl (some (.inl r))) (J, R) := h0
    exact ⟨_, 0, 0, by decide, by decide, (fun r9 e9 => by cases e9; rfl), wk_heard_ok h1⟩
  · rcases hk with ⟨rfl, h9, rfl⟩ | ⟨rfl, h9, rfl⟩
    · exact absurd rfl h9
    · have h1 : sm_E l 4 mX11_heard [.inr (.inl 0), .inl a1] (I, R) (.inr "java/lang/IllegalArgumentException") (J, R) := h0
      exact ⟨_, 1, 6, by decide, by decide, (fun r9 e9 => by cases e9), wk_heard_i h1⟩
abbrev mL_best : sm_I := (yL_best, cL_best, 4, some .int)
abbrev hL_best : List (Nat × Nat × Nat × Nat) := [(0, 9, 12, 13)]
theorem ls_best : lz_ms 185 3 mL_best hL_best := ⟨sm_g4 235 (by decide +kernel) rfl, sm_g4 236 (by decide +kernel) rfl, in_L, sm_g4 237 (by decide +kernel) rfl, by decide, by decide, by decide +kernel, by decide⟩
set_option maxRecDepth 20000 in
theorem wk_best_ok {l : Launch} {σ σ' : sm_M} {v : Int64} {a1 : Int32} {r : Int32} (hE : sm_E l 5 mX11_best [.inr (.inl 0), .inl a1] σ (.inl (some (.inl r))) σ') : wz_E l mL_best hL_best [.inr (.inl 0), .inl a1, .inr (.inl 5001)] σ v 0 σ' r.toInt64 0 0 := by
  refine wz_meth (by decide) (Nat.le_of_ble_eq_true rfl) ?_
  refine wz_aload_n (q := 1) dL_best_0 rfl rfl 2 rfl ?_
  refine wz_iconst (x := 0) (q := 2) dL_best_1 rfl (by decide) ?_
  refine wz_aload_n (q := 3) dL_best_2 rfl rfl 0 rfl ?_
  refine wz_iload_n (q := 4) dL_best_3 rfl rfl 1 rfl ?_
  exact wz_ok (As := [.inl a1]) (p1 := 7) (p2 := 8) (p3 := 9) (p4 := 15) hE mv_L_49 rfl (by decide) rfl dL_best_4 rfl dL_best_7 rfl dL_best_8 rfl dL_best_9 (by decide) dL_best_15 dL_best_16
set_option maxRecDepth 20000 in
theorem wk_best_i {l : Launch} {σ σ' : sm_M} {v : Int64} {a1 : Int32} (hE : sm_E l 5 mX11_best [.inr (.inl 0), .inl a1] σ (.inr "java/lang/IllegalArgumentException") σ') : wz_E l mL_best hL_best [.inr (.inl 0), .inl a1, .inr (.inl 5001)] σ v 1 σ' v 1 6 := by
  refine wz_meth (by decide) (Nat.le_of_ble_eq_true rfl) ?_
  refine wz_aload_n (q := 1) dL_best_0 rfl rfl 2 rfl ?_
  refine wz_iconst (x := 0) (q := 2) dL_best_1 rfl (by decide) ?_
  refine wz_aload_n (q := 3) dL_best_2 rfl rfl 0 rfl ?_
  refine wz_iload_n (q := 4) dL_best_3 rfl rfl 1 rfl ?_
  exact wz_thr1 (As := [.inl a1]) (p2 := 13) hE mv_L_49 rfl (by decide) rfl dL_best_4 (by decide) (by decide) cl_L_13 (by decide) (Or.inl ⟨3, dL_best_12, rfl, by decide⟩) dL_best_13 (by decide) dL_best_14
theorem wk_best {l : Launch} (hl : l.stackTraces = false) {N : Nat} {R : Nat → Nat → Nat} {I J : Nat → Nat → Int32} {v : Int64} {a1 : Int32} {y : Int32 ⊕ String} {k : Int32} (h : f_X11_best N R 0 a1 I = some (y, J)) (hk : zo_k 0 1 y k) : ∃ (v' : Int64) (mc ms : Nat), mc ≤ 1 ∧ ms ≤ 6 ∧ (∀ r, y = .inl r → v' = r.toInt64) ∧ wz_E l mL_best hL_best [.inr (.inl 0), .inl a1, .inr (.inl 5001)] (I, R) v k (J, R) v' mc ms := by
  have h0 := e_X11_best hl h
  rcases y with r | E
  · have hk : k = 0 := hk
    subst hk
    have h1 : sm_E l 5 mX11_best [.inr (.inl 0), .inl a1] (I, R) (.inl (some (.inl r))) (J, R) := h0
    exact ⟨_, 0, 0, by decide, by decide, (fun r9 e9 => by cases e9; rfl), wk_best_ok h1⟩
  · rcases hk with ⟨rfl, h9, rfl⟩ | ⟨rfl, h9, rfl⟩
    · exact absurd rfl h9
    · have h1 : sm_E l 5 mX11_best [.inr (.inl 0), .inl a1] (I, R) (.inr "java/lang/IllegalArgumentException") (J, R) := h0
      exact ⟨_, 1, 6, by decide, by decide, (fun r9 e9 => by cases e9), wk_best_i h1⟩
abbrev mL_free : sm_I := (yL_free, cL_free, 4, some .int)
abbrev hL_free : List (Nat × Nat × Nat × Nat) := [(0, 9, 12, 18)]
theorem ls_free : lz_ms 192 3 mL_free hL_free := ⟨sm_g5 6 (by decide +kernel) rfl, sm_g5 7 (by decide +kernel) rfl, in_L, sm_g5 8 (by decide +kernel) rfl, by decide, by decide, by decide +kernel, by decide⟩
set_option maxRecDepth 20000 in
theorem wk_free_ok {l : Launch} {σ σ' : sm_M} {v : Int64} {a1 : Int32} {r : Int32} (hE : sm_E l 5 mX11_free [.inr (.inl 0), .inl a1] σ (.inl (some (.inl r))) σ') : wz_E l mL_free hL_free [.inr (.inl 0), .inl a1, .inr (.inl 5001)] σ v 0 σ' r.toInt64 0 0 := by
  refine wz_meth (by decide) (Nat.le_of_ble_eq_true rfl) ?_
  refine wz_aload_n (q := 1) dL_free_0 rfl rfl 2 rfl ?_
  refine wz_iconst (x := 0) (q := 2) dL_free_1 rfl (by decide) ?_
  refine wz_aload_n (q := 3) dL_free_2 rfl rfl 0 rfl ?_
  refine wz_iload_n (q := 4) dL_free_3 rfl rfl 1 rfl ?_
  exact wz_ok (As := [.inl a1]) (p1 := 7) (p2 := 8) (p3 := 9) (p4 := 15) hE mv_L_52 rfl (by decide) rfl dL_free_4 rfl dL_free_7 rfl dL_free_8 rfl dL_free_9 (by decide) dL_free_15 dL_free_16
set_option maxRecDepth 20000 in
theorem wk_free_n {l : Launch} {σ σ' : sm_M} {v : Int64} {a1 : Int32} (hE : sm_E l 5 mX11_free [.inr (.inl 0), .inl a1] σ (.inr "java/util/NoSuchElementException") σ') : wz_E l mL_free hL_free [.inr (.inl 0), .inl a1, .inr (.inl 5001)] σ v 1 σ' v 1 6 := by
  refine wz_meth (by decide) (Nat.le_of_ble_eq_true rfl) ?_
  refine wz_aload_n (q := 1) dL_free_0 rfl rfl 2 rfl ?_
  refine wz_iconst (x := 0) (q := 2) dL_free_1 rfl (by decide) ?_
  refine wz_aload_n (q := 3) dL_free_2 rfl rfl 0 rfl ?_
  refine wz_iload_n (q := 4) dL_free_3 rfl rfl 1 rfl ?_
  exact wz_thr1 (As := [.inl a1]) (p2 := 13) hE mv_L_52 rfl (by decide) rfl dL_free_4 (by decide) (by decide) cl_L_18 (by decide) (Or.inl ⟨3, dL_free_12, rfl, by decide⟩) dL_free_13 (by decide) dL_free_14
theorem wk_free {l : Launch} (hl : l.stackTraces = false) {N : Nat} {R : Nat → Nat → Nat} {I J : Nat → Nat → Int32} {v : Int64} {a1 : Int32} {y : Int32 ⊕ String} {k : Int32} (h : f_X11_free N R 0 a1 I = some (y, J)) (hk : zo_k 1 0 y k) : ∃ (v' : Int64) (mc ms : Nat), mc ≤ 1 ∧ ms ≤ 6 ∧ (∀ r, y = .inl r → v' = r.toInt64) ∧ wz_E l mL_free hL_free [.inr (.inl 0), .inl a1, .inr (.inl 5001)] (I, R) v k (J, R) v' mc ms := by
  have h0 := e_X11_free hl h
  rcases y with r | E
  · have hk : k = 0 := hk
    subst hk
    have h1 : sm_E l 5 mX11_free [.inr (.inl 0), .inl a1] (I, R) (.inl (some (.inl r))) (J, R) := h0
    exact ⟨_, 0, 0, by decide, by decide, (fun r9 e9 => by cases e9; rfl), wk_free_ok h1⟩
  · rcases hk with ⟨rfl, h9, rfl⟩ | ⟨rfl, h9, rfl⟩
    · have h1 : sm_E l 5 mX11_free [.inr (.inl 0), .inl a1] (I, R) (.inr "java/util/NoSuchElementException") (J, R) := h0
      exact ⟨_, 1, 6, by decide, by decide, (fun r9 e9 => by cases e9), wk_free_n h1⟩
    · exact absurd rfl h9
abbrev mL_nobody : sm_I := (yL_nobody, cL_nobody, 4, some .int)
abbrev hL_nobody : List (Nat × Nat × Nat × Nat) := [(0, 9, 12, 13)]
theorem ls_nobody : lz_ms 195 3 mL_nobody hL_nobody := ⟨sm_g5 18 (by decide +kernel) rfl, sm_g5 19 (by decide +kernel) rfl, in_L, sm_g5 20 (by decide +kernel) rfl, by decide, by decide, by decide +kernel, by decide⟩
set_option maxRecDepth 20000 in
theorem wk_nobody_ok {l : Launch} {σ σ' : sm_M} {v : Int64} {a1 : Int32} {r : Int32} (hE : sm_E l 3 mX11_nobody [.inr (.inl 0), .inl a1] σ (.inl (some (.inl r))) σ') : wz_E l mL_nobody hL_nobody [.inr (.inl 0), .inl a1, .inr (.inl 5001)] σ v 0 σ' r.toInt64 0 0 := by
  refine wz_meth (by decide) (Nat.le_of_ble_eq_true rfl) ?_
  refine wz_aload_n (q := 1) dL_nobody_0 rfl rfl 2 rfl ?_
  refine wz_iconst (x := 0) (q := 2) dL_nobody_1 rfl (by decide) ?_
  refine wz_aload_n (q := 3) dL_nobody_2 rfl rfl 0 rfl ?_
  refine wz_iload_n (q := 4) dL_nobody_3 rfl rfl 1 rfl ?_
  exact wz_ok (As := [.inl a1]) (p1 := 7) (p2 := 8) (p3 := 9) (p4 := 15) hE mv_L_55 rfl (by decide) rfl dL_nobody_4 rfl dL_nobody_7 rfl dL_nobody_8 rfl dL_nobody_9 (by decide) dL_nobody_15 dL_nobody_16
set_option maxRecDepth 20000 in
theorem wk_nobody_i {l : Launch} {σ σ' : sm_M} {v : Int64} {a1 : Int32} (hE : sm_E l 3 mX11_nobody [.inr (.inl 0), .inl a1] σ (.inr "java/lang/IllegalArgumentException") σ') : wz_E l mL_nobody hL_nobody [.inr (.inl 0), .inl a1, .inr (.inl 5001)] σ v 1 σ' v 1 6 := by
  refine wz_meth (by decide) (Nat.le_of_ble_eq_true rfl) ?_
  refine wz_aload_n (q := 1) dL_nobody_0 rfl rfl 2 rfl ?_
  refine wz_iconst (x := 0) (q := 2) dL_nobody_1 rfl (by decide) ?_
  refine wz_aload_n (q := 3) dL_nobody_2 rfl rfl 0 rfl ?_
  refine wz_iload_n (q := 4) dL_nobody_3 rfl rfl 1 rfl ?_
  exact wz_thr1 (As := [.inl a1]) (p2 := 13) hE mv_L_55 rfl (by decide) rfl dL_nobody_4 (by decide) (by decide) cl_L_13 (by decide) (Or.inl ⟨3, dL_nobody_12, rfl, by decide⟩) dL_nobody_13 (by decide) dL_nobody_14
theorem wk_nobody {l : Launch} (hl : l.stackTraces = false) {N : Nat} {R : Nat → Nat → Nat} {I J : Nat → Nat → Int32} {v : Int64} {a1 : Int32} {y : Int32 ⊕ String} {k : Int32} (h : f_X11_nobody N R 0 a1 I = some (y, J)) (hk : zo_k 0 1 y k) : ∃ (v' : Int64) (mc ms : Nat), mc ≤ 1 ∧ ms ≤ 6 ∧ (∀ r, y = .inl r → v' = r.toInt64) ∧ wz_E l mL_nobody hL_nobody [.inr (.inl 0), .inl a1, .inr (.inl 5001)] (I, R) v k (J, R) v' mc ms := by
  have h0 := e_X11_nobody hl h
  rcases y with r | E
  · have hk : k = 0 := hk
    subst hk
    have h1 : sm_E l 3 mX11_nobody [.inr (.inl 0), .inl a1] (I, R) (.inl (some (.inl r))) (J, R) := h0
    exact ⟨_, 0, 0, by decide, by decide, (fun r9 e9 => by cases e9; rfl), wk_nobody_ok h1⟩
  · rcases hk with ⟨rfl, h9, rfl⟩ | ⟨rfl, h9, rfl⟩
    · exact absurd rfl h9
    · have h1 : sm_E l 3 mX11_nobody [.inr (.inl 0), .inl a1] (I, R) (.inr "java/lang/IllegalArgumentException") (J, R) := h0
      exact ⟨_, 1, 6, by decide, by decide, (fun r9 e9 => by cases e9), wk_nobody_i h1⟩
abbrev mL_through : sm_I := (yL_through, cL_through, 4, some .int)
abbrev hL_through : List (Nat × Nat × Nat × Nat) := [(0, 9, 12, 18)]
theorem ls_through : lz_ms 198 3 mL_through hL_through := ⟨sm_g5 29 (by decide +kernel) rfl, sm_g5 30 (by decide +kernel) rfl, in_L, sm_g5 31 (by decide +kernel) rfl, by decide, by decide, by decide +kernel, by decide⟩
set_option maxRecDepth 20000 in
theorem wk_through_ok {l : Launch} {σ σ' : sm_M} {v : Int64} {a1 : Int32} {r : Int32} (hE : sm_E l 5 mX11_through [.inr (.inl 0), .inl a1] σ (.inl (some (.inl r))) σ') : wz_E l mL_through hL_through [.inr (.inl 0), .inl a1, .inr (.inl 5001)] σ v 0 σ' r.toInt64 0 0 := by
  refine wz_meth (by decide) (Nat.le_of_ble_eq_true rfl) ?_
  refine wz_aload_n (q := 1) dL_through_0 rfl rfl 2 rfl ?_
  refine wz_iconst (x := 0) (q := 2) dL_through_1 rfl (by decide) ?_
  refine wz_aload_n (q := 3) dL_through_2 rfl rfl 0 rfl ?_
  refine wz_iload_n (q := 4) dL_through_3 rfl rfl 1 rfl ?_
  exact wz_ok (As := [.inl a1]) (p1 := 7) (p2 := 8) (p3 := 9) (p4 := 15) hE mv_L_58 rfl (by decide) rfl dL_through_4 rfl dL_through_7 rfl dL_through_8 rfl dL_through_9 (by decide) dL_through_15 dL_through_16
set_option maxRecDepth 20000 in
theorem wk_through_n {l : Launch} {σ σ' : sm_M} {v : Int64} {a1 : Int32} (hE : sm_E l 5 mX11_through [.inr (.inl 0), .inl a1] σ (.inr "java/util/NoSuchElementException") σ') : wz_E l mL_through hL_through [.inr (.inl 0), .inl a1, .inr (.inl 5001)] σ v 1 σ' v 1 6 := by
  refine wz_meth (by decide) (Nat.le_of_ble_eq_true rfl) ?_
  refine wz_aload_n (q := 1) dL_through_0 rfl rfl 2 rfl ?_
  refine wz_iconst (x := 0) (q := 2) dL_through_1 rfl (by decide) ?_
  refine wz_aload_n (q := 3) dL_through_2 rfl rfl 0 rfl ?_
  refine wz_iload_n (q := 4) dL_through_3 rfl rfl 1 rfl ?_
  exact wz_thr1 (As := [.inl a1]) (p2 := 13) hE mv_L_58 rfl (by decide) rfl dL_through_4 (by decide) (by decide) cl_L_18 (by decide) (Or.inl ⟨3, dL_through_12, rfl, by decide⟩) dL_through_13 (by decide) dL_through_14
theorem wk_through {l : Launch} (hl : l.stackTraces = false) {N : Nat} {R : Nat → Nat → Nat} {I J : Nat → Nat → Int32} {v : Int64} {a1 : Int32} {y : Int32 ⊕ String} {k : Int32} (h : f_X11_through N R 0 a1 I = some (y, J)) (hk : zo_k 1 0 y k) : ∃ (v' : Int64) (mc ms : Nat), mc ≤ 1 ∧ ms ≤ 6 ∧ (∀ r, y = .inl r → v' = r.toInt64) ∧ wz_E l mL_through hL_through [.inr (.inl 0), .inl a1, .inr (.inl 5001)] (I, R) v k (J, R) v' mc ms := by
  have h0 := e_X11_through hl h
  rcases y with r | E
  · have hk : k = 0 := hk
    subst hk
    have h1 : sm_E l 5 mX11_through [.inr (.inl 0), .inl a1] (I, R) (.inl (some (.inl r))) (J, R) := h0
    exact ⟨_, 0, 0, by decide, by decide, (fun r9 e9 => by cases e9; rfl), wk_through_ok h1⟩
  · rcases hk with ⟨rfl, h9, rfl⟩ | ⟨rfl, h9, rfl⟩
    · have h1 : sm_E l 5 mX11_through [.inr (.inl 0), .inl a1] (I, R) (.inr "java/util/NoSuchElementException") (J, R) := h0
      exact ⟨_, 1, 6, by decide, by decide, (fun r9 e9 => by cases e9), wk_through_n h1⟩
    · exact absurd rfl h9
abbrev mL_toBeDone : sm_I := (yL_toBeDone, cL_toBeDone, 5, some .int)
abbrev hL_toBeDone : List (Nat × Nat × Nat × Nat) := [(0, 10, 13, 18), (0, 10, 17, 13)]
theorem ls_toBeDone : lz_ms 201 4 mL_toBeDone hL_toBeDone := ⟨sm_g5 52 (by decide +kernel) rfl, sm_g5 53 (by decide +kernel) rfl, in_L, sm_g5 54 (by decide +kernel) rfl, by decide, by decide, by decide +kernel, by decide⟩
set_option maxRecDepth 20000 in
theorem wk_toBeDone_ok {l : Launch} {σ σ' : sm_M} {v : Int64} {a1 : Int32} {a2 : Int32} {r : Int32} (hE : sm_E l 5 mX11_toBeDone [.inr (.inl 0), .inl a1, .inl a2] σ (.inl (some (.inl r))) σ') : wz_E l mL_toBeDone hL_toBeDone [.inr (.inl 0), .inl a1, .inl a2, .inr (.inl 5001)] σ v 0 σ' r.toInt64 0 0 := by
  refine wz_meth (by decide) (Nat.le_of_ble_eq_true rfl) ?_
  refine wz_aload_n (q := 1) dL_toBeDone_0 rfl rfl 3 rfl ?_
  refine wz_iconst (x := 0) (q := 2) dL_toBeDone_1 rfl (by decide) ?_
  refine wz_aload_n (q := 3) dL_toBeDone_2 rfl rfl 0 rfl ?_
  refine wz_iload_n (q := 4) dL_toBeDone_3 rfl rfl 1 rfl ?_
  refine wz_iload_n (q := 5) dL_toBeDone_4 rfl rfl 2 rfl ?_
  exact wz_ok (As := [.inl a1, .inl a2]) (p1 := 8) (p2 := 9) (p3 := 10) (p4 := 21) hE mv_L_61 rfl (by decide) rfl dL_toBeDone_5 rfl dL_toBeDone_8 rfl dL_toBeDone_9 rfl dL_toBeDone_10 (by decide) dL_toBeDone_21 dL_toBeDone_22
set_option maxRecDepth 20000 in
theorem wk_toBeDone_n {l : Launch} {σ σ' : sm_M} {v : Int64} {a1 : Int32} {a2 : Int32} (hE : sm_E l 5 mX11_toBeDone [.inr (.inl 0), .inl a1, .inl a2] σ (.inr "java/util/NoSuchElementException") σ') : wz_E l mL_toBeDone hL_toBeDone [.inr (.inl 0), .inl a1, .inl a2, .inr (.inl 5001)] σ v 1 σ' v 1 6 := by
  refine wz_meth (by decide) (Nat.le_of_ble_eq_true rfl) ?_
  refine wz_aload_n (q := 1) dL_toBeDone_0 rfl rfl 3 rfl ?_
  refine wz_iconst (x := 0) (q := 2) dL_toBeDone_1 rfl (by decide) ?_
  refine wz_aload_n (q := 3) dL_toBeDone_2 rfl rfl 0 rfl ?_
  refine wz_iload_n (q := 4) dL_toBeDone_3 rfl rfl 1 rfl ?_
  refine wz_iload_n (q := 5) dL_toBeDone_4 rfl rfl 2 rfl ?_
  exact wz_thr1 (As := [.inl a1, .inl a2]) (p2 := 15) hE mv_L_61 rfl (by decide) rfl dL_toBeDone_5 (by decide) (by decide) cl_L_18 (by decide) (Or.inr ⟨4, dL_toBeDone_13, rfl, by decide⟩) dL_toBeDone_15 (by decide) dL_toBeDone_16
set_option maxRecDepth 20000 in
theorem wk_toBeDone_i {l : Launch} {σ σ' : sm_M} {v : Int64} {a1 : Int32} {a2 : Int32} (hE : sm_E l 5 mX11_toBeDone [.inr (.inl 0), .inl a1, .inl a2] σ (.inr "java/lang/IllegalArgumentException") σ') : wz_E l mL_toBeDone hL_toBeDone [.inr (.inl 0), .inl a1, .inl a2, .inr (.inl 5001)] σ v 2 σ' v 1 6 := by
  refine wz_meth (by decide) (Nat.le_of_ble_eq_true rfl) ?_
  refine wz_aload_n (q := 1) dL_toBeDone_0 rfl rfl 3 rfl ?_
  refine wz_iconst (x := 0) (q := 2) dL_toBeDone_1 rfl (by decide) ?_
  refine wz_aload_n (q := 3) dL_toBeDone_2 rfl rfl 0 rfl ?_
  refine wz_iload_n (q := 4) dL_toBeDone_3 rfl rfl 1 rfl ?_
  refine wz_iload_n (q := 5) dL_toBeDone_4 rfl rfl 2 rfl ?_
  exact wz_thr2 (As := [.inl a1, .inl a2]) (p2 := 19) hE mv_L_61 rfl (by decide) rfl dL_toBeDone_5 (by decide) (by decide) cl_L_18 (by decide) (by decide) cl_L_13 (Or.inr ⟨4, dL_toBeDone_17, rfl, by decide⟩) dL_toBeDone_19 (by decide) dL_toBeDone_20
theorem wk_toBeDone {l : Launch} (hl : l.stackTraces = false) {N : Nat} {R : Nat → Nat → Nat} {I J : Nat → Nat → Int32} {v : Int64} {a1 : Int32} {a2 : Int32} {y : Int32 ⊕ String} {k : Int32} (h : f_X11_toBeDone N R 0 a1 a2 I = some (y, J)) (hk : zo_k 1 2 y k) : ∃ (v' : Int64) (mc ms : Nat), mc ≤ 1 ∧ ms ≤ 6 ∧ (∀ r, y = .inl r → v' = r.toInt64) ∧ wz_E l mL_toBeDone hL_toBeDone [.inr (.inl 0), .inl a1, .inl a2, .inr (.inl 5001)] (I, R) v k (J, R) v' mc ms := by
  have h0 := e_X11_toBeDone hl h
  rcases y with r | E
  · have hk : k = 0 := hk
    subst hk
    have h1 : sm_E l 5 mX11_toBeDone [.inr (.inl 0), .inl a1, .inl a2] (I, R) (.inl (some (.inl r))) (J, R) := h0
    exact ⟨_, 0, 0, by decide, by decide, (fun r9 e9 => by cases e9; rfl), wk_toBeDone_ok h1⟩
  · rcases hk with ⟨rfl, h9, rfl⟩ | ⟨rfl, h9, rfl⟩
    · have h1 : sm_E l 5 mX11_toBeDone [.inr (.inl 0), .inl a1, .inl a2] (I, R) (.inr "java/util/NoSuchElementException") (J, R) := h0
      exact ⟨_, 1, 6, by decide, by decide, (fun r9 e9 => by cases e9), wk_toBeDone_n h1⟩
    · have h1 : sm_E l 5 mX11_toBeDone [.inr (.inl 0), .inl a1, .inl a2] (I, R) (.inr "java/lang/IllegalArgumentException") (J, R) := h0
      exact ⟨_, 1, 6, by decide, by decide, (fun r9 e9 => by cases e9), wk_toBeDone_i h1⟩
abbrev mL_fits : sm_I := (yL_fits, cL_fits, 5, some .int)
abbrev hL_fits : List (Nat × Nat × Nat × Nat) := [(0, 10, 13, 18)]
theorem ls_fits : lz_ms 204 4 mL_fits hL_fits := ⟨sm_g5 59 (by decide +kernel) rfl, sm_g5 60 (by decide +kernel) rfl, in_L, sm_g5 61 (by decide +kernel) rfl, by decide, by decide, by decide +kernel, by decide⟩
set_option maxRecDepth 20000 in
theorem wk_fits_ok {l : Launch} {σ σ' : sm_M} {v : Int64} {a1 : Int32} {a2 : Int32} {r : Int32} (hE : sm_E l 2 mX11_fits [.inr (.inl 0), .inl a1, .inl a2] σ (.inl (some (.inl r))) σ') : wz_E l mL_fits hL_fits [.inr (.inl 0), .inl a1, .inl a2, .inr (.inl 5001)] σ v 0 σ' r.toInt64 0 0 := by
  refine wz_meth (by decide) (Nat.le_of_ble_eq_true rfl) ?_
  refine wz_aload_n (q := 1) dL_fits_0 rfl rfl 3 rfl ?_
  refine wz_iconst (x := 0) (q := 2) dL_fits_1 rfl (by decide) ?_
  refine wz_aload_n (q := 3) dL_fits_2 rfl rfl 0 rfl ?_
  refine wz_iload_n (q := 4) dL_fits_3 rfl rfl 1 rfl ?_
  refine wz_iload_n (q := 5) dL_fits_4 rfl rfl 2 rfl ?_
  exact wz_ok (As := [.inl a1, .inl a2]) (p1 := 8) (p2 := 9) (p3 := 10) (p4 := 17) hE mv_L_64 rfl (by decide) rfl dL_fits_5 rfl dL_fits_8 rfl dL_fits_9 rfl dL_fits_10 (by decide) dL_fits_17 dL_fits_18
set_option maxRecDepth 20000 in
theorem wk_fits_n {l : Launch} {σ σ' : sm_M} {v : Int64} {a1 : Int32} {a2 : Int32} (hE : sm_E l 2 mX11_fits [.inr (.inl 0), .inl a1, .inl a2] σ (.inr "java/util/NoSuchElementException") σ') : wz_E l mL_fits hL_fits [.inr (.inl 0), .inl a1, .inl a2, .inr (.inl 5001)] σ v 1 σ' v 1 6 := by
  refine wz_meth (by decide) (Nat.le_of_ble_eq_true rfl) ?_
  refine wz_aload_n (q := 1) dL_fits_0 rfl rfl 3 rfl ?_
  refine wz_iconst (x := 0) (q := 2) dL_fits_1 rfl (by decide) ?_
  refine wz_aload_n (q := 3) dL_fits_2 rfl rfl 0 rfl ?_
  refine wz_iload_n (q := 4) dL_fits_3 rfl rfl 1 rfl ?_
  refine wz_iload_n (q := 5) dL_fits_4 rfl rfl 2 rfl ?_
  exact wz_thr1 (As := [.inl a1, .inl a2]) (p2 := 15) hE mv_L_64 rfl (by decide) rfl dL_fits_5 (by decide) (by decide) cl_L_18 (by decide) (Or.inr ⟨4, dL_fits_13, rfl, by decide⟩) dL_fits_15 (by decide) dL_fits_16
theorem wk_fits {l : Launch} (hl : l.stackTraces = false) {N : Nat} {R : Nat → Nat → Nat} {I J : Nat → Nat → Int32} {v : Int64} {a1 : Int32} {a2 : Int32} {y : Int32 ⊕ String} {k : Int32} (h : f_X11_fits N R 0 a1 a2 I = some (y, J)) (hk : zo_k 1 0 y k) : ∃ (v' : Int64) (mc ms : Nat), mc ≤ 1 ∧ ms ≤ 6 ∧ (∀ r, y = .inl r → v' = r.toInt64) ∧ wz_E l mL_fits hL_fits [.inr (.inl 0), .inl a1, .inl a2, .inr (.inl 5001)] (I, R) v k (J, R) v' mc ms := by
  have h0 := e_X11_fits hl h
  rcases y with r | E
  · have hk : k = 0 := hk
    subst hk
    have h1 : sm_E l 2 mX11_fits [.inr (.inl 0), .inl a1, .inl a2] (I, R) (.inl (some (.inl r))) (J, R) := h0
    exact ⟨_, 0, 0, by decide, by decide, (fun r9 e9 => by cases e9; rfl), wk_fits_ok h1⟩
  · rcases hk with ⟨rfl, h9, rfl⟩ | ⟨rfl, h9, rfl⟩
    · have h1 : sm_E l 2 mX11_fits [.inr (.inl 0), .inl a1, .inl a2] (I, R) (.inr "java/util/NoSuchElementException") (J, R) := h0
      exact ⟨_, 1, 6, by decide, by decide, (fun r9 e9 => by cases e9), wk_fits_n h1⟩
    · exact absurd rfl h9
abbrev mL_repertoire : sm_I := (yL_repertoire, cL_repertoire, 4, some .int)
abbrev hL_repertoire : List (Nat × Nat × Nat × Nat) := [(0, 9, 12, 18)]
theorem ls_repertoire : lz_ms 207 3 mL_repertoire hL_repertoire := ⟨sm_g5 70 (by decide +kernel) rfl, sm_g5 71 (by decide +kernel) rfl, in_L, sm_g5 72 (by decide +kernel) rfl, by decide, by decide, by decide +kernel, by decide⟩
set_option maxRecDepth 20000 in
theorem wk_repertoire_ok {l : Launch} {σ σ' : sm_M} {v : Int64} {a1 : Int32} {r : Int32} (hE : sm_E l 2 mX11_repertoire [.inr (.inl 0), .inl a1] σ (.inl (some (.inl r))) σ') : wz_E l mL_repertoire hL_repertoire [.inr (.inl 0), .inl a1, .inr (.inl 5001)] σ v 0 σ' r.toInt64 0 0 := by
  refine wz_meth (by decide) (Nat.le_of_ble_eq_true rfl) ?_
  refine wz_aload_n (q := 1) dL_repertoire_0 rfl rfl 2 rfl ?_
  refine wz_iconst (x := 0) (q := 2) dL_repertoire_1 rfl (by decide) ?_
  refine wz_aload_n (q := 3) dL_repertoire_2 rfl rfl 0 rfl ?_
  refine wz_iload_n (q := 4) dL_repertoire_3 rfl rfl 1 rfl ?_
  exact wz_ok (As := [.inl a1]) (p1 := 7) (p2 := 8) (p3 := 9) (p4 := 15) hE mv_L_67 rfl (by decide) rfl dL_repertoire_4 rfl dL_repertoire_7 rfl dL_repertoire_8 rfl dL_repertoire_9 (by decide) dL_repertoire_15 dL_repertoire_16
set_option maxRecDepth 20000 in
theorem wk_repertoire_n {l : Launch} {σ σ' : sm_M} {v : Int64} {a1 : Int32} (hE : sm_E l 2 mX11_repertoire [.inr (.inl 0), .inl a1] σ (.inr "java/util/NoSuchElementException") σ') : wz_E l mL_repertoire hL_repertoire [.inr (.inl 0), .inl a1, .inr (.inl 5001)] σ v 1 σ' v 1 6 := by
  refine wz_meth (by decide) (Nat.le_of_ble_eq_true rfl) ?_
  refine wz_aload_n (q := 1) dL_repertoire_0 rfl rfl 2 rfl ?_
  refine wz_iconst (x := 0) (q := 2) dL_repertoire_1 rfl (by decide) ?_
  refine wz_aload_n (q := 3) dL_repertoire_2 rfl rfl 0 rfl ?_
  refine wz_iload_n (q := 4) dL_repertoire_3 rfl rfl 1 rfl ?_
  exact wz_thr1 (As := [.inl a1]) (p2 := 13) hE mv_L_67 rfl (by decide) rfl dL_repertoire_4 (by decide) (by decide) cl_L_18 (by decide) (Or.inl ⟨3, dL_repertoire_12, rfl, by decide⟩) dL_repertoire_13 (by decide) dL_repertoire_14
theorem wk_repertoire {l : Launch} (hl : l.stackTraces = false) {N : Nat} {R : Nat → Nat → Nat} {I J : Nat → Nat → Int32} {v : Int64} {a1 : Int32} {y : Int32 ⊕ String} {k : Int32} (h : f_X11_repertoire N R 0 a1 I = some (y, J)) (hk : zo_k 1 0 y k) : ∃ (v' : Int64) (mc ms : Nat), mc ≤ 1 ∧ ms ≤ 6 ∧ (∀ r, y = .inl r → v' = r.toInt64) ∧ wz_E l mL_repertoire hL_repertoire [.inr (.inl 0), .inl a1, .inr (.inl 5001)] (I, R) v k (J, R) v' mc ms := by
  have h0 := e_X11_repertoire hl h
  rcases y with r | E
  · have hk : k = 0 := hk
    subst hk
    have h1 : sm_E l 2 mX11_repertoire [.inr (.inl 0), .inl a1] (I, R) (.inl (some (.inl r))) (J, R) := h0
    exact ⟨_, 0, 0, by decide, by decide, (fun r9 e9 => by cases e9; rfl), wk_repertoire_ok h1⟩
  · rcases hk with ⟨rfl, h9, rfl⟩ | ⟨rfl, h9, rfl⟩
    · have h1 : sm_E l 2 mX11_repertoire [.inr (.inl 0), .inl a1] (I, R) (.inr "java/util/NoSuchElementException") (J, R) := h0
      exact ⟨_, 1, 6, by decide, by decide, (fun r9 e9 => by cases e9), wk_repertoire_n h1⟩
    · exact absurd rfl h9
abbrev mL_choice : sm_I := (yL_choice, cL_choice, 4, some .int)
abbrev hL_choice : List (Nat × Nat × Nat × Nat) := [(0, 9, 12, 18)]
theorem ls_choice : lz_ms 210 3 mL_choice hL_choice := ⟨sm_g5 77 (by decide +kernel) rfl, sm_g5 78 (by decide +kernel) rfl, in_L, sm_g5 79 (by decide +kernel) rfl, by decide, by decide, by decide +kernel, by decide⟩
set_option maxRecDepth 20000 in
theorem wk_choice_ok {l : Launch} {σ σ' : sm_M} {v : Int64} {a1 : Int32} {r : Int32} (hE : sm_E l 3 mX11_choice [.inr (.inl 0), .inl a1] σ (.inl (some (.inl r))) σ') : wz_E l mL_choice hL_choice [.inr (.inl 0), .inl a1, .inr (.inl 5001)] σ v 0 σ' r.toInt64 0 0 := by
  refine wz_meth (by decide) (Nat.le_of_ble_eq_true rfl) ?_
  refine wz_aload_n (q := 1) dL_choice_0 rfl rfl 2 rfl ?_
  refine wz_iconst (x := 0) (q := 2) dL_choice_1 rfl (by decide) ?_
  refine wz_aload_n (q := 3) dL_choice_2 rfl rfl 0 rfl ?_
  refine wz_iload_n (q := 4) dL_choice_3 rfl rfl 1 rfl ?_
  exact wz_ok (As := [.inl a1]) (p1 := 7) (p2 := 8) (p3 := 9) (p4 := 15) hE mv_L_70 rfl (by decide) rfl dL_choice_4 rfl dL_choice_7 rfl dL_choice_8 rfl dL_choice_9 (by decide) dL_choice_15 dL_choice_16
set_option maxRecDepth 20000 in
theorem wk_choice_n {l : Launch} {σ σ' : sm_M} {v : Int64} {a1 : Int32} (hE : sm_E l 3 mX11_choice [.inr (.inl 0), .inl a1] σ (.inr "java/util/NoSuchElementException") σ') : wz_E l mL_choice hL_choice [.inr (.inl 0), .inl a1, .inr (.inl 5001)] σ v 1 σ' v 1 6 := by
  refine wz_meth (by decide) (Nat.le_of_ble_eq_true rfl) ?_
  refine wz_aload_n (q := 1) dL_choice_0 rfl rfl 2 rfl ?_
  refine wz_iconst (x := 0) (q := 2) dL_choice_1 rfl (by decide) ?_
  refine wz_aload_n (q := 3) dL_choice_2 rfl rfl 0 rfl ?_
  refine wz_iload_n (q := 4) dL_choice_3 rfl rfl 1 rfl ?_
  exact wz_thr1 (As := [.inl a1]) (p2 := 13) hE mv_L_70 rfl (by decide) rfl dL_choice_4 (by decide) (by decide) cl_L_18 (by decide) (Or.inl ⟨3, dL_choice_12, rfl, by decide⟩) dL_choice_13 (by decide) dL_choice_14
theorem wk_choice {l : Launch} (hl : l.stackTraces = false) {N : Nat} {R : Nat → Nat → Nat} {I J : Nat → Nat → Int32} {v : Int64} {a1 : Int32} {y : Int32 ⊕ String} {k : Int32} (h : f_X11_choice N R 0 a1 I = some (y, J)) (hk : zo_k 1 0 y k) : ∃ (v' : Int64) (mc ms : Nat), mc ≤ 1 ∧ ms ≤ 6 ∧ (∀ r, y = .inl r → v' = r.toInt64) ∧ wz_E l mL_choice hL_choice [.inr (.inl 0), .inl a1, .inr (.inl 5001)] (I, R) v k (J, R) v' mc ms := by
  have h0 := e_X11_choice hl h
  rcases y with r | E
  · have hk : k = 0 := hk
    subst hk
    have h1 : sm_E l 3 mX11_choice [.inr (.inl 0), .inl a1] (I, R) (.inl (some (.inl r))) (J, R) := h0
    exact ⟨_, 0, 0, by decide, by decide, (fun r9 e9 => by cases e9; rfl), wk_choice_ok h1⟩
  · rcases hk with ⟨rfl, h9, rfl⟩ | ⟨rfl, h9, rfl⟩
    · have h1 : sm_E l 3 mX11_choice [.inr (.inl 0), .inl a1] (I, R) (.inr "java/util/NoSuchElementException") (J, R) := h0
      exact ⟨_, 1, 6, by decide, by decide, (fun r9 e9 => by cases e9), wk_choice_n h1⟩
    · exact absurd rfl h9
abbrev mL_concert : sm_I := (yL_concert, cL_concert, 5, some .int)
abbrev hL_concert : List (Nat × Nat × Nat × Nat) := [(0, 10, 13, 13)]
theorem ls_concert : lz_ms 217 4 mL_concert hL_concert := ⟨sm_g5 110 (by decide +kernel) rfl, sm_g5 111 (by decide +kernel) rfl, in_L, sm_g5 112 (by decide +kernel) rfl, by decide, by decide, by decide +kernel, by decide⟩
set_option maxRecDepth 20000 in
theorem wk_concert_ok {l : Launch} {σ σ' : sm_M} {v : Int64} {a1 : Int32} {a2 : Int32} {r : Int32} (hE : sm_E l 3 mX11_concert [.inr (.inl 0), .inl a1, .inl a2] σ (.inl (some (.inl r))) σ') : wz_E l mL_concert hL_concert [.inr (.inl 0), .inl a1, .inl a2, .inr (.inl 5001)] σ v 0 σ' r.toInt64 0 0 := by
  refine wz_meth (by decide) (Nat.le_of_ble_eq_true rfl) ?_
  refine wz_aload_n (q := 1) dL_concert_0 rfl rfl 3 rfl ?_
  refine wz_iconst (x := 0) (q := 2) dL_concert_1 rfl (by decide) ?_
  refine wz_aload_n (q := 3) dL_concert_2 rfl rfl 0 rfl ?_
  refine wz_iload_n (q := 4) dL_concert_3 rfl rfl 1 rfl ?_
  refine wz_iload_n (q := 5) dL_concert_4 rfl rfl 2 rfl ?_
  exact wz_ok (As := [.inl a1, .inl a2]) (p1 := 8) (p2 := 9) (p3 := 10) (p4 := 17) hE mv_L_73 rfl (by decide) rfl dL_concert_5 rfl dL_concert_8 rfl dL_concert_9 rfl dL_concert_10 (by decide) dL_concert_17 dL_concert_18
set_option maxRecDepth 20000 in
theorem wk_concert_i {l : Launch} {σ σ' : sm_M} {v : Int64} {a1 : Int32} {a2 : Int32} (hE : sm_E l 3 mX11_concert [.inr (.inl 0), .inl a1, .inl a2] σ (.inr "java/lang/IllegalArgumentException") σ') : wz_E l mL_concert hL_concert [.inr (.inl 0), .inl a1, .inl a2, .inr (.inl 5001)] σ v 1 σ' v 1 6 := by
  refine wz_meth (by decide) (Nat.le_of_ble_eq_true rfl) ?_
  refine wz_aload_n (q := 1) dL_concert_0 rfl rfl 3 rfl ?_
  refine wz_iconst (x := 0) (q := 2) dL_concert_1 rfl (by decide) ?_
  refine wz_aload_n (q := 3) dL_concert_2 rfl rfl 0 rfl ?_
  refine wz_iload_n (q := 4) dL_concert_3 rfl rfl 1 rfl ?_
  refine wz_iload_n (q := 5) dL_concert_4 rfl rfl 2 rfl ?_
  exact wz_thr1 (As := [.inl a1, .inl a2]) (p2 := 15) hE mv_L_73 rfl (by decide) rfl dL_concert_5 (by decide) (by decide) cl_L_13 (by decide) (Or.inr ⟨4, dL_concert_13, rfl, by decide⟩) dL_concert_15 (by decide) dL_concert_16
theorem wk_concert {l : Launch} (hl : l.stackTraces = false) {N : Nat} {R : Nat → Nat → Nat} {I J : Nat → Nat → Int32} {v : Int64} {a1 : Int32} {a2 : Int32} {y : Int32 ⊕ String} {k : Int32} (h : f_X11_concert N R 0 a1 a2 I = some (y, J)) (hk : zo_k 0 1 y k) : ∃ (v' : Int64) (mc ms : Nat), mc ≤ 1 ∧ ms ≤ 6 ∧ (∀ r, y = .inl r → v' = r.toInt64) ∧ wz_E l mL_concert hL_concert [.inr (.inl 0), .inl a1, .inl a2, .inr (.inl 5001)] (I, R) v k (J, R) v' mc ms := by
  have h0 := e_X11_concert hl h
  rcases y with r | E
  · have hk : k = 0 := hk
    subst hk
    have h1 : sm_E l 3 mX11_concert [.inr (.inl 0), .inl a1, .inl a2] (I, R) (.inl (some (.inl r))) (J, R) := h0
    exact ⟨_, 0, 0, by decide, by decide, (fun r9 e9 => by cases e9; rfl), wk_concert_ok h1⟩
  · rcases hk with ⟨rfl, h9, rfl⟩ | ⟨rfl, h9, rfl⟩
    · exact absurd rfl h9
    · have h1 : sm_E l 3 mX11_concert [.inr (.inl 0), .inl a1, .inl a2] (I, R) (.inr "java/lang/IllegalArgumentException") (J, R) := h0
      exact ⟨_, 1, 6, by decide, by decide, (fun r9 e9 => by cases e9), wk_concert_i h1⟩
abbrev mL_next : sm_I := (yL_next, cL_next, 4, some .int)
abbrev hL_next : List (Nat × Nat × Nat × Nat) := [(0, 9, 12, 18)]
theorem ls_next : lz_ms 224 3 mL_next hL_next := ⟨sm_g5 122 (by decide +kernel) rfl, sm_g5 123 (by decide +kernel) rfl, in_L, sm_g5 124 (by decide +kernel) rfl, by decide, by decide, by decide +kernel, by decide⟩
set_option maxRecDepth 20000 in
theorem wk_next_ok {l : Launch} {σ σ' : sm_M} {v : Int64} {a1 : Int32} {r : Int32} (hE : sm_E l 4 mX11_next [.inr (.inl 0), .inl a1] σ (.inl (some (.inl r))) σ') : wz_E l mL_next hL_next [.inr (.inl 0), .inl a1, .inr (.inl 5001)] σ v 0 σ' r.toInt64 0 0 := by
  refine wz_meth (by decide) (Nat.le_of_ble_eq_true rfl) ?_
  refine wz_aload_n (q := 1) dL_next_0 rfl rfl 2 rfl ?_
  refine wz_iconst (x := 0) (q := 2) dL_next_1 rfl (by decide) ?_
  refine wz_aload_n (q := 3) dL_next_2 rfl rfl 0 rfl ?_
  refine wz_iload_n (q := 4) dL_next_3 rfl rfl 1 rfl ?_
  exact wz_ok (As := [.inl a1]) (p1 := 7) (p2 := 8) (p3 := 9) (p4 := 15) hE mv_L_76 rfl (by decide) rfl dL_next_4 rfl dL_next_7 rfl dL_next_8 rfl dL_next_9 (by decide) dL_next_15 dL_next_16
set_option maxRecDepth 20000 in
theorem wk_next_n {l : Launch} {σ σ' : sm_M} {v : Int64} {a1 : Int32} (hE : sm_E l 4 mX11_next [.inr (.inl 0), .inl a1] σ (.inr "java/util/NoSuchElementException") σ') : wz_E l mL_next hL_next [.inr (.inl 0), .inl a1, .inr (.inl 5001)] σ v 1 σ' v 1 6 := by
  refine wz_meth (by decide) (Nat.le_of_ble_eq_true rfl) ?_
  refine wz_aload_n (q := 1) dL_next_0 rfl rfl 2 rfl ?_
  refine wz_iconst (x := 0) (q := 2) dL_next_1 rfl (by decide) ?_
  refine wz_aload_n (q := 3) dL_next_2 rfl rfl 0 rfl ?_
  refine wz_iload_n (q := 4) dL_next_3 rfl rfl 1 rfl ?_
  exact wz_thr1 (As := [.inl a1]) (p2 := 13) hE mv_L_76 rfl (by decide) rfl dL_next_4 (by decide) (by decide) cl_L_18 (by decide) (Or.inl ⟨3, dL_next_12, rfl, by decide⟩) dL_next_13 (by decide) dL_next_14
theorem wk_next {l : Launch} (hl : l.stackTraces = false) {N : Nat} {R : Nat → Nat → Nat} {I J : Nat → Nat → Int32} {v : Int64} {a1 : Int32} {y : Int32 ⊕ String} {k : Int32} (h : f_X11_next N R 0 a1 I = some (y, J)) (hk : zo_k 1 0 y k) : ∃ (v' : Int64) (mc ms : Nat), mc ≤ 1 ∧ ms ≤ 6 ∧ (∀ r, y = .inl r → v' = r.toInt64) ∧ wz_E l mL_next hL_next [.inr (.inl 0), .inl a1, .inr (.inl 5001)] (I, R) v k (J, R) v' mc ms := by
  have h0 := e_X11_next hl h
  rcases y with r | E
  · have hk : k = 0 := hk
    subst hk
    have h1 : sm_E l 4 mX11_next [.inr (.inl 0), .inl a1] (I, R) (.inl (some (.inl r))) (J, R) := h0
    exact ⟨_, 0, 0, by decide, by decide, (fun r9 e9 => by cases e9; rfl), wk_next_ok h1⟩
  · rcases hk with ⟨rfl, h9, rfl⟩ | ⟨rfl, h9, rfl⟩
    · have h1 : sm_E l 4 mX11_next [.inr (.inl 0), .inl a1] (I, R) (.inr "java/util/NoSuchElementException") (J, R) := h0
      exact ⟨_, 1, 6, by decide, by decide, (fun r9 e9 => by cases e9), wk_next_n h1⟩
    · exact absurd rfl h9
abbrev mL_rush : sm_I := (yL_rush, cL_rush, 5, some .int)
abbrev hL_rush : List (Nat × Nat × Nat × Nat) := [(0, 10, 13, 18), (0, 10, 17, 13)]
theorem ls_rush : lz_ms 227 4 mL_rush hL_rush := ⟨sm_g5 129 (by decide +kernel) rfl, sm_g5 130 (by decide +kernel) rfl, in_L, sm_g5 131 (by decide +kernel) rfl, by decide, by decide, by decide +kernel, by decide⟩
set_option maxRecDepth 20000 in
theorem wk_rush_ok {l : Launch} {σ σ' : sm_M} {v : Int64} {a1 : Int32} {a2 : Int32} {r : Int32} (hE : sm_E l 5 mX11_rush [.inr (.inl 0), .inl a1, .inl a2] σ (.inl (some (.inl r))) σ') : wz_E l mL_rush hL_rush [.inr (.inl 0), .inl a1, .inl a2, .inr (.inl 5001)] σ v 0 σ' r.toInt64 0 0 := by
  refine wz_meth (by decide) (Nat.le_of_ble_eq_true rfl) ?_
  refine wz_aload_n (q := 1) dL_rush_0 rfl rfl 3 rfl ?_
  refine wz_iconst (x := 0) (q := 2) dL_rush_1 rfl (by decide) ?_
  refine wz_aload_n (q := 3) dL_rush_2 rfl rfl 0 rfl ?_
  refine wz_iload_n (q := 4) dL_rush_3 rfl rfl 1 rfl ?_
  refine wz_iload_n (q := 5) dL_rush_4 rfl rfl 2 rfl ?_
  exact wz_ok (As := [.inl a1, .inl a2]) (p1 := 8) (p2 := 9) (p3 := 10) (p4 := 21) hE mv_L_79 rfl (by decide) rfl dL_rush_5 rfl dL_rush_8 rfl dL_rush_9 rfl dL_rush_10 (by decide) dL_rush_21 dL_rush_22
set_option maxRecDepth 20000 in
theorem wk_rush_n {l : Launch} {σ σ' : sm_M} {v : Int64} {a1 : Int32} {a2 : Int32} (hE : sm_E l 5 mX11_rush [.inr (.inl 0), .inl a1, .inl a2] σ (.inr "java/util/NoSuchElementException") σ') : wz_E l mL_rush hL_rush [.inr (.inl 0), .inl a1, .inl a2, .inr (.inl 5001)] σ v 1 σ' v 1 6 := by
  refine wz_meth (by decide) (Nat.le_of_ble_eq_true rfl) ?_
  refine wz_aload_n (q := 1) dL_rush_0 rfl rfl 3 rfl ?_
  refine wz_iconst (x := 0) (q := 2) dL_rush_1 rfl (by decide) ?_
  refine wz_aload_n (q := 3) dL_rush_2 rfl rfl 0 rfl ?_
  refine wz_iload_n (q := 4) dL_rush_3 rfl rfl 1 rfl ?_
  refine wz_iload_n (q := 5) dL_rush_4 rfl rfl 2 rfl ?_
  exact wz_thr1 (As := [.inl a1, .inl a2]) (p2 := 15) hE mv_L_79 rfl (by decide) rfl dL_rush_5 (by decide) (by decide) cl_L_18 (by decide) (Or.inr ⟨4, dL_rush_13, rfl, by decide⟩) dL_rush_15 (by decide) dL_rush_16
set_option maxRecDepth 20000 in
theorem wk_rush_i {l : Launch} {σ σ' : sm_M} {v : Int64} {a1 : Int32} {a2 : Int32} (hE : sm_E l 5 mX11_rush [.inr (.inl 0), .inl a1, .inl a2] σ (.inr "java/lang/IllegalArgumentException") σ') : wz_E l mL_rush hL_rush [.inr (.inl 0), .inl a1, .inl a2, .inr (.inl 5001)] σ v 2 σ' v 1 6 := by
  refine wz_meth (by decide) (Nat.le_of_ble_eq_true rfl) ?_
  refine wz_aload_n (q := 1) dL_rush_0 rfl rfl 3 rfl ?_
  refine wz_iconst (x := 0) (q := 2) dL_rush_1 rfl (by decide) ?_
  refine wz_aload_n (q := 3) dL_rush_2 rfl rfl 0 rfl ?_
  refine wz_iload_n (q := 4) dL_rush_3 rfl rfl 1 rfl ?_
  refine wz_iload_n (q := 5) dL_rush_4 rfl rfl 2 rfl ?_
  exact wz_thr2 (As := [.inl a1, .inl a2]) (p2 := 19) hE mv_L_79 rfl (by decide) rfl dL_rush_5 (by decide) (by decide) cl_L_18 (by decide) (by decide) cl_L_13 (Or.inr ⟨4, dL_rush_17, rfl, by decide⟩) dL_rush_19 (by decide) dL_rush_20
theorem wk_rush {l : Launch} (hl : l.stackTraces = false) {N : Nat} {R : Nat → Nat → Nat} {I J : Nat → Nat → Int32} {v : Int64} {a1 : Int32} {a2 : Int32} {y : Int32 ⊕ String} {k : Int32} (h : f_X11_rush N R 0 a1 a2 I = some (y, J)) (hk : zo_k 1 2 y k) : ∃ (v' : Int64) (mc ms : Nat), mc ≤ 1 ∧ ms ≤ 6 ∧ (∀ r, y = .inl r → v' = r.toInt64) ∧ wz_E l mL_rush hL_rush [.inr (.inl 0), .inl a1, .inl a2, .inr (.inl 5001)] (I, R) v k (J, R) v' mc ms := by
  have h0 := e_X11_rush hl h
  rcases y with r | E
  · have hk : k = 0 := hk
    subst hk
    have h1 : sm_E l 5 mX11_rush [.inr (.inl 0), .inl a1, .inl a2] (I, R) (.inl (some (.inl r))) (J, R) := h0
    exact ⟨_, 0, 0, by decide, by decide, (fun r9 e9 => by cases e9; rfl), wk_rush_ok h1⟩
  · rcases hk with ⟨rfl, h9, rfl⟩ | ⟨rfl, h9, rfl⟩
    · have h1 : sm_E l 5 mX11_rush [.inr (.inl 0), .inl a1, .inl a2] (I, R) (.inr "java/util/NoSuchElementException") (J, R) := h0
      exact ⟨_, 1, 6, by decide, by decide, (fun r9 e9 => by cases e9), wk_rush_n h1⟩
    · have h1 : sm_E l 5 mX11_rush [.inr (.inl 0), .inl a1, .inl a2] (I, R) (.inr "java/lang/IllegalArgumentException") (J, R) := h0
      exact ⟨_, 1, 6, by decide, by decide, (fun r9 e9 => by cases e9), wk_rush_i h1⟩
abbrev mL_sorest : sm_I := (yL_sorest, cL_sorest, 4, some .int)
abbrev hL_sorest : List (Nat × Nat × Nat × Nat) := [(0, 9, 12, 13)]
theorem ls_sorest : lz_ms 230 3 mL_sorest hL_sorest := ⟨sm_g5 140 (by decide +kernel) rfl, sm_g5 141 (by decide +kernel) rfl, in_L, sm_g5 142 (by decide +kernel) rfl, by decide, by decide, by decide +kernel, by decide⟩
set_option maxRecDepth 20000 in
theorem wk_sorest_ok {l : Launch} {σ σ' : sm_M} {v : Int64} {a1 : Int32} {r : Int32} (hE : sm_E l 5 mX11_sorest [.inr (.inl 0), .inl a1] σ (.inl (some (.inl r))) σ') : wz_E l mL_sorest hL_sorest [.inr (.inl 0), .inl a1, .inr (.inl 5001)] σ v 0 σ' r.toInt64 0 0 := by
  refine wz_meth (by decide) (Nat.le_of_ble_eq_true rfl) ?_
  refine wz_aload_n (q := 1) dL_sorest_0 rfl rfl 2 rfl ?_
  refine wz_iconst (x := 0) (q := 2) dL_sorest_1 rfl (by decide) ?_
  refine wz_aload_n (q := 3) dL_sorest_2 rfl rfl 0 rfl ?_
  refine wz_iload_n (q := 4) dL_sorest_3 rfl rfl 1 rfl ?_
  exact wz_ok (As := [.inl a1]) (p1 := 7) (p2 := 8) (p3 := 9) (p4 := 15) hE mv_L_82 rfl (by decide) rfl dL_sorest_4 rfl dL_sorest_7 rfl dL_sorest_8 rfl dL_sorest_9 (by decide) dL_sorest_15 dL_sorest_16
set_option maxRecDepth 20000 in
theorem wk_sorest_i {l : Launch} {σ σ' : sm_M} {v : Int64} {a1 : Int32} (hE : sm_E l 5 mX11_sorest [.inr (.inl 0), .inl a1] σ (.inr "java/lang/IllegalArgumentException") σ') : wz_E l mL_sorest hL_sorest [.inr (.inl 0), .inl a1, .inr (.inl 5001)] σ v 1 σ' v 1 6 := by
  refine wz_meth (by decide) (Nat.le_of_ble_eq_true rfl) ?_
  refine wz_aload_n (q := 1) dL_sorest_0 rfl rfl 2 rfl ?_
  refine wz_iconst (x := 0) (q := 2) dL_sorest_1 rfl (by decide) ?_
  refine wz_aload_n (q := 3) dL_sorest_2 rfl rfl 0 rfl ?_
  refine wz_iload_n (q := 4) dL_sorest_3 rfl rfl 1 rfl ?_
  exact wz_thr1 (As := [.inl a1]) (p2 := 13) hE mv_L_82 rfl (by decide) rfl dL_sorest_4 (by decide) (by decide) cl_L_13 (by decide) (Or.inl ⟨3, dL_sorest_12, rfl, by decide⟩) dL_sorest_13 (by decide) dL_sorest_14
theorem wk_sorest {l : Launch} (hl : l.stackTraces = false) {N : Nat} {R : Nat → Nat → Nat} {I J : Nat → Nat → Int32} {v : Int64} {a1 : Int32} {y : Int32 ⊕ String} {k : Int32} (h : f_X11_sorest N R 0 a1 I = some (y, J)) (hk : zo_k 0 1 y k) : ∃ (v' : Int64) (mc ms : Nat), mc ≤ 1 ∧ ms ≤ 6 ∧ (∀ r, y = .inl r → v' = r.toInt64) ∧ wz_E l mL_sorest hL_sorest [.inr (.inl 0), .inl a1, .inr (.inl 5001)] (I, R) v k (J, R) v' mc ms := by
  have h0 := e_X11_sorest hl h
  rcases y with r | E
  · have hk : k = 0 := hk
    subst hk
    have h1 : sm_E l 5 mX11_sorest [.inr (.inl 0), .inl a1] (I, R) (.inl (some (.inl r))) (J, R) := h0
    exact ⟨_, 0, 0, by decide, by decide, (fun r9 e9 => by cases e9; rfl), wk_sorest_ok h1⟩
  · rcases hk with ⟨rfl, h9, rfl⟩ | ⟨rfl, h9, rfl⟩
    · exact absurd rfl h9
    · have h1 : sm_E l 5 mX11_sorest [.inr (.inl 0), .inl a1] (I, R) (.inr "java/lang/IllegalArgumentException") (J, R) := h0
      exact ⟨_, 1, 6, by decide, by decide, (fun r9 e9 => by cases e9), wk_sorest_i h1⟩
abbrev mL_toGlove : sm_I := (yL_toGlove, cL_toGlove, 4, some .int)
abbrev hL_toGlove : List (Nat × Nat × Nat × Nat) := [(0, 9, 12, 18)]
theorem ls_toGlove : lz_ms 233 3 mL_toGlove hL_toGlove := ⟨sm_g5 147 (by decide +kernel) rfl, sm_g5 148 (by decide +kernel) rfl, in_L, sm_g5 149 (by decide +kernel) rfl, by decide, by decide, by decide +kernel, by decide⟩
set_option maxRecDepth 20000 in
theorem wk_toGlove_ok {l : Launch} {σ σ' : sm_M} {v : Int64} {a1 : Int32} {r : Int32} (hE : sm_E l 4 mX11_toGlove [.inr (.inl 0), .inl a1] σ (.inl (some (.inl r))) σ') : wz_E l mL_toGlove hL_toGlove [.inr (.inl 0), .inl a1, .inr (.inl 5001)] σ v 0 σ' r.toInt64 0 0 := by
  refine wz_meth (by decide) (Nat.le_of_ble_eq_true rfl) ?_
  refine wz_aload_n (q := 1) dL_toGlove_0 rfl rfl 2 rfl ?_
  refine wz_iconst (x := 0) (q := 2) dL_toGlove_1 rfl (by decide) ?_
  refine wz_aload_n (q := 3) dL_toGlove_2 rfl rfl 0 rfl ?_
  refine wz_iload_n (q := 4) dL_toGlove_3 rfl rfl 1 rfl ?_
  exact wz_ok (As := [.inl a1]) (p1 := 7) (p2 := 8) (p3 := 9) (p4 := 15) hE mv_L_85 rfl (by decide) rfl dL_toGlove_4 rfl dL_toGlove_7 rfl dL_toGlove_8 rfl dL_toGlove_9 (by decide) dL_toGlove_15 dL_toGlove_16
set_option maxRecDepth 20000 in
theorem wk_toGlove_n {l : Launch} {σ σ' : sm_M} {v : Int64} {a1 : Int32} (hE : sm_E l 4 mX11_toGlove [.inr (.inl 0), .inl a1] σ (.inr "java/util/NoSuchElementException") σ') : wz_E l mL_toGlove hL_toGlove [.inr (.inl 0), .inl a1, .inr (.inl 5001)] σ v 1 σ' v 1 6 := by
  refine wz_meth (by decide) (Nat.le_of_ble_eq_true rfl) ?_
  refine wz_aload_n (q := 1) dL_toGlove_0 rfl rfl 2 rfl ?_
  refine wz_iconst (x := 0) (q := 2) dL_toGlove_1 rfl (by decide) ?_
  refine wz_aload_n (q := 3) dL_toGlove_2 rfl rfl 0 rfl ?_
  refine wz_iload_n (q := 4) dL_toGlove_3 rfl rfl 1 rfl ?_
  exact wz_thr1 (As := [.inl a1]) (p2 := 13) hE mv_L_85 rfl (by decide) rfl dL_toGlove_4 (by decide) (by decide) cl_L_18 (by decide) (Or.inl ⟨3, dL_toGlove_12, rfl, by decide⟩) dL_toGlove_13 (by decide) dL_toGlove_14
theorem wk_toGlove {l : Launch} (hl : l.stackTraces = false) {N : Nat} {R : Nat → Nat → Nat} {I J : Nat → Nat → Int32} {v : Int64} {a1 : Int32} {y : Int32 ⊕ String} {k : Int32} (h : f_X11_toGlove N R 0 a1 I = some (y, J)) (hk : zo_k 1 0 y k) : ∃ (v' : Int64) (mc ms : Nat), mc ≤ 1 ∧ ms ≤ 6 ∧ (∀ r, y = .inl r → v' = r.toInt64) ∧ wz_E l mL_toGlove hL_toGlove [.inr (.inl 0), .inl a1, .inr (.inl 5001)] (I, R) v k (J, R) v' mc ms := by
  have h0 := e_X11_toGlove hl h
  rcases y with r | E
  · have hk : k = 0 := hk
    subst hk
    have h1 : sm_E l 4 mX11_toGlove [.inr (.inl 0), .inl a1] (I, R) (.inl (some (.inl r))) (J, R) := h0
    exact ⟨_, 0, 0, by decide, by decide, (fun r9 e9 => by cases e9; rfl), wk_toGlove_ok h1⟩
  · rcases hk with ⟨rfl, h9, rfl⟩ | ⟨rfl, h9, rfl⟩
    · have h1 : sm_E l 4 mX11_toGlove [.inr (.inl 0), .inl a1] (I, R) (.inr "java/util/NoSuchElementException") (J, R) := h0
      exact ⟨_, 1, 6, by decide, by decide, (fun r9 e9 => by cases e9), wk_toGlove_n h1⟩
    · exact absurd rfl h9
abbrev mL_full : sm_I := (yL_full, cL_full, 4, some .int)
abbrev hL_full : List (Nat × Nat × Nat × Nat) := [(0, 9, 12, 13)]
theorem ls_full : lz_ms 236 3 mL_full hL_full := ⟨sm_g5 154 (by decide +kernel) rfl, sm_g5 155 (by decide +kernel) rfl, in_L, sm_g5 156 (by decide +kernel) rfl, by decide, by decide, by decide +kernel, by decide⟩
set_option maxRecDepth 20000 in
theorem wk_full_ok {l : Launch} {σ σ' : sm_M} {v : Int64} {a1 : Int32} {r : Int32} (hE : sm_E l 2 mX11_full [.inr (.inl 0), .inl a1] σ (.inl (some (.inl r))) σ') : wz_E l mL_full hL_full [.inr (.inl 0), .inl a1, .inr (.inl 5001)] σ v 0 σ' r.toInt64 0 0 := by
  refine wz_meth (by decide) (Nat.le_of_ble_eq_true rfl) ?_
  refine wz_aload_n (q := 1) dL_full_0 rfl rfl 2 rfl ?_
  refine wz_iconst (x := 0) (q := 2) dL_full_1 rfl (by decide) ?_
  refine wz_aload_n (q := 3) dL_full_2 rfl rfl 0 rfl ?_
  refine wz_iload_n (q := 4) dL_full_3 rfl rfl 1 rfl ?_
  exact wz_ok (As := [.inl a1]) (p1 := 7) (p2 := 8) (p3 := 9) (p4 := 15) hE mv_L_88 rfl (by decide) rfl dL_full_4 rfl dL_full_7 rfl dL_full_8 rfl dL_full_9 (by decide) dL_full_15 dL_full_16
set_option maxRecDepth 20000 in
theorem wk_full_i {l : Launch} {σ σ' : sm_M} {v : Int64} {a1 : Int32} (hE : sm_E l 2 mX11_full [.inr (.inl 0), .inl a1] σ (.inr "java/lang/IllegalArgumentException") σ') : wz_E l mL_full hL_full [.inr (.inl 0), .inl a1, .inr (.inl 5001)] σ v 1 σ' v 1 6 := by
  refine wz_meth (by decide) (Nat.le_of_ble_eq_true rfl) ?_
  refine wz_aload_n (q := 1) dL_full_0 rfl rfl 2 rfl ?_
  refine wz_iconst (x := 0) (q := 2) dL_full_1 rfl (by decide) ?_
  refine wz_aload_n (q := 3) dL_full_2 rfl rfl 0 rfl ?_
  refine wz_iload_n (q := 4) dL_full_3 rfl rfl 1 rfl ?_
  exact wz_thr1 (As := [.inl a1]) (p2 := 13) hE mv_L_88 rfl (by decide) rfl dL_full_4 (by decide) (by decide) cl_L_13 (by decide) (Or.inl ⟨3, dL_full_12, rfl, by decide⟩) dL_full_13 (by decide) dL_full_14
theorem wk_full {l : Launch} (hl : l.stackTraces = false) {N : Nat} {R : Nat → Nat → Nat} {I J : Nat → Nat → Int32} {v : Int64} {a1 : Int32} {y : Int32 ⊕ String} {k : Int32} (h : f_X11_full N R 0 a1 I = some (y, J)) (hk : zo_k 0 1 y k) : ∃ (v' : Int64) (mc ms : Nat), mc ≤ 1 ∧ ms ≤ 6 ∧ (∀ r, y = .inl r → v' = r.toInt64) ∧ wz_E l mL_full hL_full [.inr (.inl 0), .inl a1, .inr (.inl 5001)] (I, R) v k (J, R) v' mc ms := by
  have h0 := e_X11_full hl h
  rcases y with r | E
  · have hk : k = 0 := hk
    subst hk
    have h1 : sm_E l 2 mX11_full [.inr (.inl 0), .inl a1] (I, R) (.inl (some (.inl r))) (J, R) := h0
    exact ⟨_, 0, 0, by decide, by decide, (fun r9 e9 => by cases e9; rfl), wk_full_ok h1⟩
  · rcases hk with ⟨rfl, h9, rfl⟩ | ⟨rfl, h9, rfl⟩
    · exact absurd rfl h9
    · have h1 : sm_E l 2 mX11_full [.inr (.inl 0), .inl a1] (I, R) (.inr "java/lang/IllegalArgumentException") (J, R) := h0
      exact ⟨_, 1, 6, by decide, by decide, (fun r9 e9 => by cases e9), wk_full_i h1⟩
abbrev mL_empty : sm_I := (yL_empty, cL_empty, 4, some .int)
abbrev hL_empty : List (Nat × Nat × Nat × Nat) := [(0, 9, 12, 13)]
theorem ls_empty : lz_ms 239 3 mL_empty hL_empty := ⟨sm_g5 161 (by decide +kernel) rfl, sm_g5 162 (by decide +kernel) rfl, in_L, sm_g5 163 (by decide +kernel) rfl, by decide, by decide, by decide +kernel, by decide⟩
set_option maxRecDepth 20000 in
theorem wk_empty_ok {l : Launch} {σ σ' : sm_M} {v : Int64} {a1 : Int32} {r : Int32} (hE : sm_E l 3 mX11_empty [.inr (.inl 0), .inl a1] σ (.inl (some (.inl r))) σ') : wz_E l mL_empty hL_empty [.inr (.inl 0), .inl a1, .inr (.inl 5001)] σ v 0 σ' r.toInt64 0 0 := by
  refine wz_meth (by decide) (Nat.le_of_ble_eq_true rfl) ?_
  refine wz_aload_n (q := 1) dL_empty_0 rfl rfl 2 rfl ?_
  refine wz_iconst (x := 0) (q := 2) dL_empty_1 rfl (by decide) ?_
  refine wz_aload_n (q := 3) dL_empty_2 rfl rfl 0 rfl ?_
  refine wz_iload_n (q := 4) dL_empty_3 rfl rfl 1 rfl ?_
  exact wz_ok (As := [.inl a1]) (p1 := 7) (p2 := 8) (p3 := 9) (p4 := 15) hE mv_L_91 rfl (by decide) rfl dL_empty_4 rfl dL_empty_7 rfl dL_empty_8 rfl dL_empty_9 (by decide) dL_empty_15 dL_empty_16
set_option maxRecDepth 20000 in
theorem wk_empty_i {l : Launch} {σ σ' : sm_M} {v : Int64} {a1 : Int32} (hE : sm_E l 3 mX11_empty [.inr (.inl 0), .inl a1] σ (.inr "java/lang/IllegalArgumentException") σ') : wz_E l mL_empty hL_empty [.inr (.inl 0), .inl a1, .inr (.inl 5001)] σ v 1 σ' v 1 6 := by
  refine wz_meth (by decide) (Nat.le_of_ble_eq_true rfl) ?_
  refine wz_aload_n (q := 1) dL_empty_0 rfl rfl 2 rfl ?_
  refine wz_iconst (x := 0) (q := 2) dL_empty_1 rfl (by decide) ?_
  refine wz_aload_n (q := 3) dL_empty_2 rfl rfl 0 rfl ?_
  refine wz_iload_n (q := 4) dL_empty_3 rfl rfl 1 rfl ?_
  exact wz_thr1 (As := [.inl a1]) (p2 := 13) hE mv_L_91 rfl (by decide) rfl dL_empty_4 (by decide) (by decide) cl_L_13 (by decide) (Or.inl ⟨3, dL_empty_12, rfl, by decide⟩) dL_empty_13 (by decide) dL_empty_14
theorem wk_empty {l : Launch} (hl : l.stackTraces = false) {N : Nat} {R : Nat → Nat → Nat} {I J : Nat → Nat → Int32} {v : Int64} {a1 : Int32} {y : Int32 ⊕ String} {k : Int32} (h : f_X11_empty N R 0 a1 I = some (y, J)) (hk : zo_k 0 1 y k) : ∃ (v' : Int64) (mc ms : Nat), mc ≤ 1 ∧ ms ≤ 6 ∧ (∀ r, y = .inl r → v' = r.toInt64) ∧ wz_E l mL_empty hL_empty [.inr (.inl 0), .inl a1, .inr (.inl 5001)] (I, R) v k (J, R) v' mc ms := by
  have h0 := e_X11_empty hl h
  rcases y with r | E
  · have hk : k = 0 := hk
    subst hk
    have h1 : sm_E l 3 mX11_empty [.inr (.inl 0), .inl a1] (I, R) (.inl (some (.inl r))) (J, R) := h0
    exact ⟨_, 0, 0, by decide, by decide, (fun r9 e9 => by cases e9; rfl), wk_empty_ok h1⟩
  · rcases hk with ⟨rfl, h9, rfl⟩ | ⟨rfl, h9, rfl⟩
    · exact absurd rfl h9
    · have h1 : sm_E l 3 mX11_empty [.inr (.inl 0), .inl a1] (I, R) (.inr "java/lang/IllegalArgumentException") (J, R) := h0
      exact ⟨_, 1, 6, by decide, by decide, (fun r9 e9 => by cases e9), wk_empty_i h1⟩
abbrev mL_common : sm_I := (yL_common, cL_common, 5, some .int)
abbrev hL_common : List (Nat × Nat × Nat × Nat) := [(0, 10, 13, 18)]
theorem ls_common : lz_ms 242 4 mL_common hL_common := ⟨sm_g5 168 (by decide +kernel) rfl, sm_g5 169 (by decide +kernel) rfl, in_L, sm_g5 170 (by decide +kernel) rfl, by decide, by decide, by decide +kernel, by decide⟩
set_option maxRecDepth 20000 in
theorem wk_common_ok {l : Launch} {σ σ' : sm_M} {v : Int64} {a1 : Int32} {a2 : Int32} {r : Int32} (hE : sm_E l 2 mX11_common [.inr (.inl 0), .inl a1, .inl a2] σ (.inl (some (.inl r))) σ') : wz_E l mL_common hL_common [.inr (.inl 0), .inl a1, .inl a2, .inr (.inl 5001)] σ v 0 σ' r.toInt64 0 0 := by
  refine wz_meth (by decide) (Nat.le_of_ble_eq_true rfl) ?_
  refine wz_aload_n (q := 1) dL_common_0 rfl rfl 3 rfl ?_
  refine wz_iconst (x := 0) (q := 2) dL_common_1 rfl (by decide) ?_
  refine wz_aload_n (q := 3) dL_common_2 rfl rfl 0 rfl ?_
  refine wz_iload_n (q := 4) dL_common_3 rfl rfl 1 rfl ?_
  refine wz_iload_n (q := 5) dL_common_4 rfl rfl 2 rfl ?_
  exact wz_ok (As := [.inl a1, .inl a2]) (p1 := 8) (p2 := 9) (p3 := 10) (p4 := 17) hE mv_L_94 rfl (by decide) rfl dL_common_5 rfl dL_common_8 rfl dL_common_9 rfl dL_common_10 (by decide) dL_common_17 dL_common_18
set_option maxRecDepth 20000 in
theorem wk_common_n {l : Launch} {σ σ' : sm_M} {v : Int64} {a1 : Int32} {a2 : Int32} (hE : sm_E l 2 mX11_common [.inr (.inl 0), .inl a1, .inl a2] σ (.inr "java/util/NoSuchElementException") σ') : wz_E l mL_common hL_common [.inr (.inl 0), .inl a1, .inl a2, .inr (.inl 5001)] σ v 1 σ' v 1 6 := by
  refine wz_meth (by decide) (Nat.le_of_ble_eq_true rfl) ?_
  refine wz_aload_n (q := 1) dL_common_0 rfl rfl 3 rfl ?_
  refine wz_iconst (x := 0) (q := 2) dL_common_1 rfl (by decide) ?_
  refine wz_aload_n (q := 3) dL_common_2 rfl rfl 0 rfl ?_
  refine wz_iload_n (q := 4) dL_common_3 rfl rfl 1 rfl ?_
  refine wz_iload_n (q := 5) dL_common_4 rfl rfl 2 rfl ?_
  exact wz_thr1 (As := [.inl a1, .inl a2]) (p2 := 15) hE mv_L_94 rfl (by decide) rfl dL_common_5 (by decide) (by decide) cl_L_18 (by decide) (Or.inr ⟨4, dL_common_13, rfl, by decide⟩) dL_common_15 (by decide) dL_common_16
theorem wk_common {l : Launch} (hl : l.stackTraces = false) {N : Nat} {R : Nat → Nat → Nat} {I J : Nat → Nat → Int32} {v : Int64} {a1 : Int32} {a2 : Int32} {y : Int32 ⊕ String} {k : Int32} (h : f_X11_common N R 0 a1 a2 I = some (y, J)) (hk : zo_k 1 0 y k) : ∃ (v' : Int64) (mc ms : Nat), mc ≤ 1 ∧ ms ≤ 6 ∧ (∀ r, y = .inl r → v' = r.toInt64) ∧ wz_E l mL_common hL_common [.inr (.inl 0), .inl a1, .inl a2, .inr (.inl 5001)] (I, R) v k (J, R) v' mc ms := by
  have h0 := e_X11_common hl h
  rcases y with r | E
  · have hk : k = 0 := hk
    subst hk
    have h1 : sm_E l 2 mX11_common [.inr (.inl 0), .inl a1, .inl a2] (I, R) (.inl (some (.inl r))) (J, R) := h0
    exact ⟨_, 0, 0, by decide, by decide, (fun r9 e9 => by cases e9; rfl), wk_common_ok h1⟩
  · rcases hk with ⟨rfl, h9, rfl⟩ | ⟨rfl, h9, rfl⟩
    · have h1 : sm_E l 2 mX11_common [.inr (.inl 0), .inl a1, .inl a2] (I, R) (.inr "java/util/NoSuchElementException") (J, R) := h0
      exact ⟨_, 1, 6, by decide, by decide, (fun r9 e9 => by cases e9), wk_common_n h1⟩
    · exact absurd rfl h9
abbrev mL_work : sm_I := (yL_work, cL_work, 4, some .int)
abbrev hL_work : List (Nat × Nat × Nat × Nat) := [(0, 9, 12, 18)]
theorem ls_work : lz_ms 245 3 mL_work hL_work := ⟨sm_g5 180 (by decide +kernel) rfl, sm_g5 181 (by decide +kernel) rfl, in_L, sm_g5 182 (by decide +kernel) rfl, by decide, by decide, by decide +kernel, by decide⟩
set_option maxRecDepth 20000 in
theorem wk_work_ok {l : Launch} {σ σ' : sm_M} {v : Int64} {a1 : Int32} {r : Int32} (hE : sm_E l 1 mX11_work [.inr (.inl 0), .inl a1] σ (.inl (some (.inl r))) σ') : wz_E l mL_work hL_work [.inr (.inl 0), .inl a1, .inr (.inl 5001)] σ v 0 σ' r.toInt64 0 0 := by
  refine wz_meth (by decide) (Nat.le_of_ble_eq_true rfl) ?_
  refine wz_aload_n (q := 1) dL_work_0 rfl rfl 2 rfl ?_
  refine wz_iconst (x := 0) (q := 2) dL_work_1 rfl (by decide) ?_
  refine wz_aload_n (q := 3) dL_work_2 rfl rfl 0 rfl ?_
  refine wz_iload_n (q := 4) dL_work_3 rfl rfl 1 rfl ?_
  exact wz_ok (As := [.inl a1]) (p1 := 7) (p2 := 8) (p3 := 9) (p4 := 15) hE mv_L_97 rfl (by decide) rfl dL_work_4 rfl dL_work_7 rfl dL_work_8 rfl dL_work_9 (by decide) dL_work_15 dL_work_16
set_option maxRecDepth 20000 in
theorem wk_work_n {l : Launch} {σ σ' : sm_M} {v : Int64} {a1 : Int32} (hE : sm_E l 1 mX11_work [.inr (.inl 0), .inl a1] σ (.inr "java/util/NoSuchElementException") σ') : wz_E l mL_work hL_work [.inr (.inl 0), .inl a1, .inr (.inl 5001)] σ v 1 σ' v 1 6 := by
  refine wz_meth (by decide) (Nat.le_of_ble_eq_true rfl) ?_
  refine wz_aload_n (q := 1) dL_work_0 rfl rfl 2 rfl ?_
  refine wz_iconst (x := 0) (q := 2) dL_work_1 rfl (by decide) ?_
  refine wz_aload_n (q := 3) dL_work_2 rfl rfl 0 rfl ?_
  refine wz_iload_n (q := 4) dL_work_3 rfl rfl 1 rfl ?_
  exact wz_thr1 (As := [.inl a1]) (p2 := 13) hE mv_L_97 rfl (by decide) rfl dL_work_4 (by decide) (by decide) cl_L_18 (by decide) (Or.inl ⟨3, dL_work_12, rfl, by decide⟩) dL_work_13 (by decide) dL_work_14
theorem wk_work {l : Launch} (hl : l.stackTraces = false) {N : Nat} {R : Nat → Nat → Nat} {I J : Nat → Nat → Int32} {v : Int64} {a1 : Int32} {y : Int32 ⊕ String} {k : Int32} (h : f_X11_work N R 0 a1 I = some (y, J)) (hk : zo_k 1 0 y k) : ∃ (v' : Int64) (mc ms : Nat), mc ≤ 1 ∧ ms ≤ 6 ∧ (∀ r, y = .inl r → v' = r.toInt64) ∧ wz_E l mL_work hL_work [.inr (.inl 0), .inl a1, .inr (.inl 5001)] (I, R) v k (J, R) v' mc ms := by
  have h0 := e_X11_work hl h
  rcases y with r | E
  · have hk : k = 0 := hk
    subst hk
    have h1 : sm_E l 1 mX11_work [.inr (.inl 0), .inl a1] (I, R) (.inl (some (.inl r))) (J, R) := h0
    exact ⟨_, 0, 0, by decide, by decide, (fun r9 e9 => by cases e9; rfl), wk_work_ok h1⟩
  · rcases hk with ⟨rfl, h9, rfl⟩ | ⟨rfl, h9, rfl⟩
    · have h1 : sm_E l 1 mX11_work [.inr (.inl 0), .inl a1] (I, R) (.inr "java/util/NoSuchElementException") (J, R) := h0
      exact ⟨_, 1, 6, by decide, by decide, (fun r9 e9 => by cases e9), wk_work_n h1⟩
    · exact absurd rfl h9
abbrev mL_mates : sm_I := (yL_mates, cL_mates, 4, some .int)
abbrev hL_mates : List (Nat × Nat × Nat × Nat) := [(0, 9, 12, 18)]
theorem ls_mates : lz_ms 248 3 mL_mates hL_mates := ⟨sm_g5 187 (by decide +kernel) rfl, sm_g5 188 (by decide +kernel) rfl, in_L, sm_g5 189 (by decide +kernel) rfl, by decide, by decide, by decide +kernel, by decide⟩
set_option maxRecDepth 20000 in
theorem wk_mates_ok {l : Launch} {σ σ' : sm_M} {v : Int64} {a1 : Int32} {r : Int32} (hE : sm_E l 1 mX11_mates [.inr (.inl 0), .inl a1] σ (.inl (some (.inl r))) σ') : wz_E l mL_mates hL_mates [.inr (.inl 0), .inl a1, .inr (.inl 5001)] σ v 0 σ' r.toInt64 0 0 := by
  refine wz_meth (by decide) (Nat.le_of_ble_eq_true rfl) ?_
  refine wz_aload_n (q := 1) dL_mates_0 rfl rfl 2 rfl ?_
  refine wz_iconst (x := 0) (q := 2) dL_mates_1 rfl (by decide) ?_
  refine wz_aload_n (q := 3) dL_mates_2 rfl rfl 0 rfl ?_
  refine wz_iload_n (q := 4) dL_mates_3 rfl rfl 1 rfl ?_
  exact wz_ok (As := [.inl a1]) (p1 := 7) (p2 := 8) (p3 := 9) (p4 := 15) hE mv_L_100 rfl (by decide) rfl dL_mates_4 rfl dL_mates_7 rfl dL_mates_8 rfl dL_mates_9 (by decide) dL_mates_15 dL_mates_16
set_option maxRecDepth 20000 in
theorem wk_mates_n {l : Launch} {σ σ' : sm_M} {v : Int64} {a1 : Int32} (hE : sm_E l 1 mX11_mates [.inr (.inl 0), .inl a1] σ (.inr "java/util/NoSuchElementException") σ') : wz_E l mL_mates hL_mates [.inr (.inl 0), .inl a1, .inr (.inl 5001)] σ v 1 σ' v 1 6 := by
  refine wz_meth (by decide) (Nat.le_of_ble_eq_true rfl) ?_
  refine wz_aload_n (q := 1) dL_mates_0 rfl rfl 2 rfl ?_
  refine wz_iconst (x := 0) (q := 2) dL_mates_1 rfl (by decide) ?_
  refine wz_aload_n (q := 3) dL_mates_2 rfl rfl 0 rfl ?_
  refine wz_iload_n (q := 4) dL_mates_3 rfl rfl 1 rfl ?_
  exact wz_thr1 (As := [.inl a1]) (p2 := 13) hE mv_L_100 rfl (by decide) rfl dL_mates_4 (by decide) (by decide) cl_L_18 (by decide) (Or.inl ⟨3, dL_mates_12, rfl, by decide⟩) dL_mates_13 (by decide) dL_mates_14
theorem wk_mates {l : Launch} (hl : l.stackTraces = false) {N : Nat} {R : Nat → Nat → Nat} {I J : Nat → Nat → Int32} {v : Int64} {a1 : Int32} {y : Int32 ⊕ String} {k : Int32} (h : f_X11_mates N R 0 a1 I = some (y, J)) (hk : zo_k 1 0 y k) : ∃ (v' : Int64) (mc ms : Nat), mc ≤ 1 ∧ ms ≤ 6 ∧ (∀ r, y = .inl r → v' = r.toInt64) ∧ wz_E l mL_mates hL_mates [.inr (.inl 0), .inl a1, .inr (.inl 5001)] (I, R) v k (J, R) v' mc ms := by
  have h0 := e_X11_mates hl h
  rcases y with r | E
  · have hk : k = 0 := hk
    subst hk
    have h1 : sm_E l 1 mX11_mates [.inr (.inl 0), .inl a1] (I, R) (.inl (some (.inl r))) (J, R) := h0
    exact ⟨_, 0, 0, by decide, by decide, (fun r9 e9 => by cases e9; rfl), wk_mates_ok h1⟩
  · rcases hk with ⟨rfl, h9, rfl⟩ | ⟨rfl, h9, rfl⟩
    · have h1 : sm_E l 1 mX11_mates [.inr (.inl 0), .inl a1] (I, R) (.inr "java/util/NoSuchElementException") (J, R) := h0
      exact ⟨_, 1, 6, by decide, by decide, (fun r9 e9 => by cases e9), wk_mates_n h1⟩
    · exact absurd rfl h9
abbrev mL_see : sm_I := (yL_see, cL_see, 6, some .int)
abbrev hL_see : List (Nat × Nat × Nat × Nat) := [(0, 12, 15, 18)]
theorem ls_see : lz_ms 251 5 mL_see hL_see := ⟨sm_g5 194 (by decide +kernel) rfl, sm_g5 195 (by decide +kernel) rfl, in_L, sm_g5 196 (by decide +kernel) rfl, by decide, by decide, by decide +kernel, by decide⟩
set_option maxRecDepth 20000 in
theorem wk_see_ok {l : Launch} {σ σ' : sm_M} {v : Int64} {a1 : Int32} {a2 : Int32} {a3 : Int32} {r : Int32} (hE : sm_E l 1 mX11_see [.inr (.inl 0), .inl a1, .inl a2, .inl a3] σ (.inl (some (.inl r))) σ') : wz_E l mL_see hL_see [.inr (.inl 0), .inl a1, .inl a2, .inl a3, .inr (.inl 5001)] σ v 0 σ' r.toInt64 0 0 := by
  refine wz_meth (by decide) (Nat.le_of_ble_eq_true rfl) ?_
  refine wz_aload (q := 2) dL_see_0 rfl 4 rfl ?_
  refine wz_iconst (x := 0) (q := 3) dL_see_2 rfl (by decide) ?_
  refine wz_aload_n (q := 4) dL_see_3 rfl rfl 0 rfl ?_
  refine wz_iload_n (q := 5) dL_see_4 rfl rfl 1 rfl ?_
  refine wz_iload_n (q := 6) dL_see_5 rfl rfl 2 rfl ?_
  refine wz_iload_n (q := 7) dL_see_6 rfl rfl 3 rfl ?_
  exact wz_ok (As := [.inl a1, .inl a2, .inl a3]) (p1 := 10) (p2 := 11) (p3 := 12) (p4 := 19) hE mv_L_103 rfl (by decide) rfl dL_see_7 rfl dL_see_10 rfl dL_see_11 rfl dL_see_12 (by decide) dL_see_19 dL_see_20
set_option maxRecDepth 20000 in
theorem wk_see_n {l : Launch} {σ σ' : sm_M} {v : Int64} {a1 : Int32} {a2 : Int32} {a3 : Int32} (hE : sm_E l 1 mX11_see [.inr (.inl 0), .inl a1, .inl a2, .inl a3] σ (.inr "java/util/NoSuchElementException") σ') : wz_E l mL_see hL_see [.inr (.inl 0), .inl a1, .inl a2, .inl a3, .inr (.inl 5001)] σ v 1 σ' v 1 6 := by
  refine wz_meth (by decide) (Nat.le_of_ble_eq_true rfl) ?_
  refine wz_aload (q := 2) dL_see_0 rfl 4 rfl ?_
  refine wz_iconst (x := 0) (q := 3) dL_see_2 rfl (by decide) ?_
  refine wz_aload_n (q := 4) dL_see_3 rfl rfl 0 rfl ?_
  refine wz_iload_n (q := 5) dL_see_4 rfl rfl 1 rfl ?_
  refine wz_iload_n (q := 6) dL_see_5 rfl rfl 2 rfl ?_
  refine wz_iload_n (q := 7) dL_see_6 rfl rfl 3 rfl ?_
  exact wz_thr1 (As := [.inl a1, .inl a2, .inl a3]) (p2 := 17) hE mv_L_103 rfl (by decide) rfl dL_see_7 (by decide) (by decide) cl_L_18 (by decide) (Or.inr ⟨5, dL_see_15, rfl, by decide⟩) dL_see_17 (by decide) dL_see_18
theorem wk_see {l : Launch} (hl : l.stackTraces = false) {N : Nat} {R : Nat → Nat → Nat} {I J : Nat → Nat → Int32} {v : Int64} {a1 : Int32} {a2 : Int32} {a3 : Int32} {y : Int32 ⊕ String} {k : Int32} (h : f_X11_see N R 0 a1 a2 a3 I = some (y, J)) (hk : zo_k 1 0 y k) : ∃ (v' : Int64) (mc ms : Nat), mc ≤ 1 ∧ ms ≤ 6 ∧ (∀ r, y = .inl r → v' = r.toInt64) ∧ wz_E l mL_see hL_see [.inr (.inl 0), .inl a1, .inl a2, .inl a3, .inr (.inl 5001)] (I, R) v k (J, R) v' mc ms := by
  have h0 := e_X11_see hl h
  rcases y with r | E
  · have hk : k = 0 := hk
    subst hk
    have h1 : sm_E l 1 mX11_see [.inr (.inl 0), .inl a1, .inl a2, .inl a3] (I, R) (.inl (some (.inl r))) (J, R) := h0
    exact ⟨_, 0, 0, by decide, by decide, (fun r9 e9 => by cases e9; rfl), wk_see_ok h1⟩
  · rcases hk with ⟨rfl, h9, rfl⟩ | ⟨rfl, h9, rfl⟩
    · have h1 : sm_E l 1 mX11_see [.inr (.inl 0), .inl a1, .inl a2, .inl a3] (I, R) (.inr "java/util/NoSuchElementException") (J, R) := h0
      exact ⟨_, 1, 6, by decide, by decide, (fun r9 e9 => by cases e9), wk_see_n h1⟩
    · exact absurd rfl h9
abbrev mL_been : sm_I := (yL_been, cL_been, 4, some .int)
abbrev hL_been : List (Nat × Nat × Nat × Nat) := [(0, 9, 12, 18)]
theorem ls_been : lz_ms 254 3 mL_been hL_been := ⟨sm_g5 205 (by decide +kernel) rfl, sm_g5 206 (by decide +kernel) rfl, in_L, sm_g5 207 (by decide +kernel) rfl, by decide, by decide, by decide +kernel, by decide⟩
set_option maxRecDepth 20000 in
theorem wk_been_ok {l : Launch} {σ σ' : sm_M} {v : Int64} {a1 : Int32} {r : Int32} (hE : sm_E l 7 mX11_been [.inr (.inl 0), .inl a1] σ (.inl (some (.inl r))) σ') : wz_E l mL_been hL_been [.inr (.inl 0), .inl a1, .inr (.inl 5001)] σ v 0 σ' r.toInt64 0 0 := by
  refine wz_meth (by decide) (Nat.le_of_ble_eq_true rfl) ?_
  refine wz_aload_n (q := 1) dL_been_0 rfl rfl 2 rfl ?_
  refine wz_iconst (x := 0) (q := 2) dL_been_1 rfl (by decide) ?_
  refine wz_aload_n (q := 3) dL_been_2 rfl rfl 0 rfl ?_
  refine wz_iload_n (q := 4) dL_been_3 rfl rfl 1 rfl ?_
  exact wz_ok (As := [.inl a1]) (p1 := 7) (p2 := 8) (p3 := 9) (p4 := 15) hE mv_L_106 rfl (by decide) rfl dL_been_4 rfl dL_been_7 rfl dL_been_8 rfl dL_been_9 (by decide) dL_been_15 dL_been_16
set_option maxRecDepth 20000 in
theorem wk_been_n {l : Launch} {σ σ' : sm_M} {v : Int64} {a1 : Int32} (hE : sm_E l 7 mX11_been [.inr (.inl 0), .inl a1] σ (.inr "java/util/NoSuchElementException") σ') : wz_E l mL_been hL_been [.inr (.inl 0), .inl a1, .inr (.inl 5001)] σ v 1 σ' v 1 6 := by
  refine wz_meth (by decide) (Nat.le_of_ble_eq_true rfl) ?_
  refine wz_aload_n (q := 1) dL_been_0 rfl rfl 2 rfl ?_
  refine wz_iconst (x := 0) (q := 2) dL_been_1 rfl (by decide) ?_
  refine wz_aload_n (q := 3) dL_been_2 rfl rfl 0 rfl ?_
  refine wz_iload_n (q := 4) dL_been_3 rfl rfl 1 rfl ?_
  exact wz_thr1 (As := [.inl a1]) (p2 := 13) hE mv_L_106 rfl (by decide) rfl dL_been_4 (by decide) (by decide) cl_L_18 (by decide) (Or.inl ⟨3, dL_been_12, rfl, by decide⟩) dL_been_13 (by decide) dL_been_14
theorem wk_been {l : Launch} (hl : l.stackTraces = false) {N : Nat} {R : Nat → Nat → Nat} {I J : Nat → Nat → Int32} {v : Int64} {a1 : Int32} {y : Int32 ⊕ String} {k : Int32} (h : f_X11_been N R 0 a1 I = some (y, J)) (hk : zo_k 1 0 y k) : ∃ (v' : Int64) (mc ms : Nat), mc ≤ 1 ∧ ms ≤ 6 ∧ (∀ r, y = .inl r → v' = r.toInt64) ∧ wz_E l mL_been hL_been [.inr (.inl 0), .inl a1, .inr (.inl 5001)] (I, R) v k (J, R) v' mc ms := by
  have h0 := e_X11_been hl h
  rcases y with r | E
  · have hk : k = 0 := hk
    subst hk
    have h1 : sm_E l 7 mX11_been [.inr (.inl 0), .inl a1] (I, R) (.inl (some (.inl r))) (J, R) := h0
    exact ⟨_, 0, 0, by decide, by decide, (fun r9 e9 => by cases e9; rfl), wk_been_ok h1⟩
  · rcases hk with ⟨rfl, h9, rfl⟩ | ⟨rfl, h9, rfl⟩
    · have h1 : sm_E l 7 mX11_been [.inr (.inl 0), .inl a1] (I, R) (.inr "java/util/NoSuchElementException") (J, R) := h0
      exact ⟨_, 1, 6, by decide, by decide, (fun r9 e9 => by cases e9), wk_been_n h1⟩
    · exact absurd rfl h9
abbrev mL_listen : sm_I := (yL_listen, cL_listen, 4, some .int)
abbrev hL_listen : List (Nat × Nat × Nat × Nat) := [(0, 9, 12, 18)]
theorem ls_listen : lz_ms 257 3 mL_listen hL_listen := ⟨sm_g6 10 (by decide +kernel) rfl, sm_g6 11 (by decide +kernel) rfl, in_L, sm_g6 12 (by decide +kernel) rfl, by decide, by decide, by decide +kernel, by decide⟩
set_option maxRecDepth 20000 in
theorem wk_listen_ok {l : Launch} {σ σ' : sm_M} {v : Int64} {a1 : Int32} {r : Int32} (hE : sm_E l 7 mX11_listen [.inr (.inl 0), .inl a1] σ (.inl (some (.inl r))) σ') : wz_E l mL_listen hL_listen [.inr (.inl 0), .inl a1, .inr (.inl 5001)] σ v 0 σ' r.toInt64 0 0 := by
  refine wz_meth (by decide) (Nat.le_of_ble_eq_true rfl) ?_
  refine wz_aload_n (q := 1) dL_listen_0 rfl rfl 2 rfl ?_
  refine wz_iconst (x := 0) (q := 2) dL_listen_1 rfl (by decide) ?_
  refine wz_aload_n (q := 3) dL_listen_2 rfl rfl 0 rfl ?_
  refine wz_iload_n (q := 4) dL_listen_3 rfl rfl 1 rfl ?_
  exact wz_ok (As := [.inl a1]) (p1 := 7) (p2 := 8) (p3 := 9) (p4 := 15) hE mv_L_109 rfl (by decide) rfl dL_listen_4 rfl dL_listen_7 rfl dL_listen_8 rfl dL_listen_9 (by decide) dL_listen_15 dL_listen_16
set_option maxRecDepth 20000 in
theorem wk_listen_n {l : Launch} {σ σ' : sm_M} {v : Int64} {a1 : Int32} (hE : sm_E l 7 mX11_listen [.inr (.inl 0), .inl a1] σ (.inr "java/util/NoSuchElementException") σ') : wz_E l mL_listen hL_listen [.inr (.inl 0), .inl a1, .inr (.inl 5001)] σ v 1 σ' v 1 6 := by
  refine wz_meth (by decide) (Nat.le_of_ble_eq_true rfl) ?_
  refine wz_aload_n (q := 1) dL_listen_0 rfl rfl 2 rfl ?_
  refine wz_iconst (x := 0) (q := 2) dL_listen_1 rfl (by decide) ?_
  refine wz_aload_n (q := 3) dL_listen_2 rfl rfl 0 rfl ?_
  refine wz_iload_n (q := 4) dL_listen_3 rfl rfl 1 rfl ?_
  exact wz_thr1 (As := [.inl a1]) (p2 := 13) hE mv_L_109 rfl (by decide) rfl dL_listen_4 (by decide) (by decide) cl_L_18 (by decide) (Or.inl ⟨3, dL_listen_12, rfl, by decide⟩) dL_listen_13 (by decide) dL_listen_14
theorem wk_listen {l : Launch} (hl : l.stackTraces = false) {N : Nat} {R : Nat → Nat → Nat} {I J : Nat → Nat → Int32} {v : Int64} {a1 : Int32} {y : Int32 ⊕ String} {k : Int32} (h : f_X11_listen N R 0 a1 I = some (y, J)) (hk : zo_k 1 0 y k) : ∃ (v' : Int64) (mc ms : Nat), mc ≤ 1 ∧ ms ≤ 6 ∧ (∀ r, y = .inl r → v' = r.toInt64) ∧ wz_E l mL_listen hL_listen [.inr (.inl 0), .inl a1, .inr (.inl 5001)] (I, R) v k (J, R) v' mc ms := by
  have h0 := e_X11_listen hl h
  rcases y with r | E
  · have hk : k = 0 := hk
    subst hk
    have h1 : sm_E l 7 mX11_listen [.inr (.inl 0), .inl a1] (I, R) (.inl (some (.inl r))) (J, R) := h0
    exact ⟨_, 0, 0, by decide, by decide, (fun r9 e9 => by cases e9; rfl), wk_listen_ok h1⟩
  · rcases hk with ⟨rfl, h9, rfl⟩ | ⟨rfl, h9, rfl⟩
    · have h1 : sm_E l 7 mX11_listen [.inr (.inl 0), .inl a1] (I, R) (.inr "java/util/NoSuchElementException") (J, R) := h0
      exact ⟨_, 1, 6, by decide, by decide, (fun r9 e9 => by cases e9), wk_listen_n h1⟩
    · exact absurd rfl h9
abbrev mL_game : sm_I := (yL_game, cL_game, 6, some .int)
abbrev hL_game : List (Nat × Nat × Nat × Nat) := [(0, 12, 15, 18), (0, 12, 19, 13)]
theorem ls_game : lz_ms 264 5 mL_game hL_game := ⟨sm_g6 26 (by decide +kernel) rfl, sm_g6 27 (by decide +kernel) rfl, in_L, sm_g6 28 (by decide +kernel) rfl, by decide, by decide, by decide +kernel, by decide⟩
set_option maxRecDepth 20000 in
theorem wk_game_ok {l : Launch} {σ σ' : sm_M} {v : Int64} {a1 : Int32} {a2 : Int32} {a3 : Int32} {r : Int32} (hE : sm_E l 7 mX11_game [.inr (.inl 0), .inl a1, .inl a2, .inl a3] σ (.inl (some (.inl r))) σ') : wz_E l mL_game hL_game [.inr (.inl 0), .inl a1, .inl a2, .inl a3, .inr (.inl 5001)] σ v 0 σ' r.toInt64 0 0 := by
  refine wz_meth (by decide) (Nat.le_of_ble_eq_true rfl) ?_
  refine wz_aload (q := 2) dL_game_0 rfl 4 rfl ?_
  refine wz_iconst (x := 0) (q := 3) dL_game_2 rfl (by decide) ?_
  refine wz_aload_n (q := 4) dL_game_3 rfl rfl 0 rfl ?_
  refine wz_iload_n (q := 5) dL_game_4 rfl rfl 1 rfl ?_
  refine wz_iload_n (q := 6) dL_game_5 rfl rfl 2 rfl ?_
  refine wz_iload_n (q := 7) dL_game_6 rfl rfl 3 rfl ?_
  exact wz_ok (As := [.inl a1, .inl a2, .inl a3]) (p1 := 10) (p2 := 11) (p3 := 12) (p4 := 23) hE mv_L_112 rfl (by decide) rfl dL_game_7 rfl dL_game_10 rfl dL_game_11 rfl dL_game_12 (by decide) dL_game_23 dL_game_24
set_option maxRecDepth 20000 in
theorem wk_game_n {l : Launch} {σ σ' : sm_M} {v : Int64} {a1 : Int32} {a2 : Int32} {a3 : Int32} (hE : sm_E l 7 mX11_game [.inr (.inl 0), .inl a1, .inl a2, .inl a3] σ (.inr "java/util/NoSuchElementException") σ') : wz_E l mL_game hL_game [.inr (.inl 0), .inl a1, .inl a2, .inl a3, .inr (.inl 5001)] σ v 1 σ' v 1 6 := by
  refine wz_meth (by decide) (Nat.le_of_ble_eq_true rfl) ?_
  refine wz_aload (q := 2) dL_game_0 rfl 4 rfl ?_
  refine wz_iconst (x := 0) (q := 3) dL_game_2 rfl (by decide) ?_
  refine wz_aload_n (q := 4) dL_game_3 rfl rfl 0 rfl ?_
  refine wz_iload_n (q := 5) dL_game_4 rfl rfl 1 rfl ?_
  refine wz_iload_n (q := 6) dL_game_5 rfl rfl 2 rfl ?_
  refine wz_iload_n (q := 7) dL_game_6 rfl rfl 3 rfl ?_
  exact wz_thr1 (As := [.inl a1, .inl a2, .inl a3]) (p2 := 17) hE mv_L_112 rfl (by decide) rfl dL_game_7 (by decide) (by decide) cl_L_18 (by decide) (Or.inr ⟨5, dL_game_15, rfl, by decide⟩) dL_game_17 (by decide) dL_game_18
set_option maxRecDepth 20000 in
theorem wk_game_i {l : Launch} {σ σ' : sm_M} {v : Int64} {a1 : Int32} {a2 : Int32} {a3 : Int32} (hE : sm_E l 7 mX11_game [.inr (.inl 0), .inl a1, .inl a2, .inl a3] σ (.inr "java/lang/IllegalArgumentException") σ') : wz_E l mL_game hL_game [.inr (.inl 0), .inl a1, .inl a2, .inl a3, .inr (.inl 5001)] σ v 2 σ' v 1 6 := by
  refine wz_meth (by decide) (Nat.le_of_ble_eq_true rfl) ?_
  refine wz_aload (q := 2) dL_game_0 rfl 4 rfl ?_
  refine wz_iconst (x := 0) (q := 3) dL_game_2 rfl (by decide) ?_
  refine wz_aload_n (q := 4) dL_game_3 rfl rfl 0 rfl ?_
  refine wz_iload_n (q := 5) dL_game_4 rfl rfl 1 rfl ?_
  refine wz_iload_n (q := 6) dL_game_5 rfl rfl 2 rfl ?_
  refine wz_iload_n (q := 7) dL_game_6 rfl rfl 3 rfl ?_
  exact wz_thr2 (As := [.inl a1, .inl a2, .inl a3]) (p2 := 21) hE mv_L_112 rfl (by decide) rfl dL_game_7 (by decide) (by decide) cl_L_18 (by decide) (by decide) cl_L_13 (Or.inr ⟨5, dL_game_19, rfl, by decide⟩) dL_game_21 (by decide) dL_game_22
theorem wk_game {l : Launch} (hl : l.stackTraces = false) {N : Nat} {R : Nat → Nat → Nat} {I J : Nat → Nat → Int32} {v : Int64} {a1 : Int32} {a2 : Int32} {a3 : Int32} {y : Int32 ⊕ String} {k : Int32} (h : f_X11_game N R 0 a1 a2 a3 I = some (y, J)) (hk : zo_k 1 2 y k) : ∃ (v' : Int64) (mc ms : Nat), mc ≤ 1 ∧ ms ≤ 6 ∧ (∀ r, y = .inl r → v' = r.toInt64) ∧ wz_E l mL_game hL_game [.inr (.inl 0), .inl a1, .inl a2, .inl a3, .inr (.inl 5001)] (I, R) v k (J, R) v' mc ms := by
  have h0 := e_X11_game hl h
  rcases y with r | E
  · have hk : k = 0 := hk
    subst hk
    have h1 : sm_E l 7 mX11_game [.inr (.inl 0), .inl a1, .inl a2, .inl a3] (I, R) (.inl (some (.inl r))) (J, R) := h0
    exact ⟨_, 0, 0, by decide, by decide, (fun r9 e9 => by cases e9; rfl), wk_game_ok h1⟩
  · rcases hk with ⟨rfl, h9, rfl⟩ | ⟨rfl, h9, rfl⟩
    · have h1 : sm_E l 7 mX11_game [.inr (.inl 0), .inl a1, .inl a2, .inl a3] (I, R) (.inr "java/util/NoSuchElementException") (J, R) := h0
      exact ⟨_, 1, 6, by decide, by decide, (fun r9 e9 => by cases e9), wk_game_n h1⟩
    · have h1 : sm_E l 7 mX11_game [.inr (.inl 0), .inl a1, .inl a2, .inl a3] (I, R) (.inr "java/lang/IllegalArgumentException") (J, R) := h0
      exact ⟨_, 1, 6, by decide, by decide, (fun r9 e9 => by cases e9), wk_game_i h1⟩
abbrev mL_years : sm_I := (yL_years, cL_years, 6, some .int)
abbrev hL_years : List (Nat × Nat × Nat × Nat) := [(0, 12, 15, 18), (0, 12, 19, 13)]
theorem ls_years : lz_ms 267 5 mL_years hL_years := ⟨sm_g6 60 (by decide +kernel) rfl, sm_g6 61 (by decide +kernel) rfl, in_L, sm_g6 62 (by decide +kernel) rfl, by decide, by decide, by decide +kernel, by decide⟩
set_option maxRecDepth 20000 in
theorem wk_years_ok {l : Launch} {σ σ' : sm_M} {v : Int64} {a1 : Int32} {a2 : Int32} {a3 : Int32} {r : Int32} (hE : sm_E l 5 mX11_years [.inr (.inl 0), .inl a1, .inl a2, .inl a3] σ (.inl (some (.inl r))) σ') : wz_E l mL_years hL_years [.inr (.inl 0), .inl a1, .inl a2, .inl a3, .inr (.inl 5001)] σ v 0 σ' r.toInt64 0 0 := by
  refine wz_meth (by decide) (Nat.le_of_ble_eq_true rfl) ?_
  refine wz_aload (q := 2) dL_years_0 rfl 4 rfl ?_
  refine wz_iconst (x := 0) (q := 3) dL_years_2 rfl (by decide) ?_
  refine wz_aload_n (q := 4) dL_years_3 rfl rfl 0 rfl ?_
  refine wz_iload_n (q := 5) dL_years_4 rfl rfl 1 rfl ?_
  refine wz_iload_n (q := 6) dL_years_5 rfl rfl 2 rfl ?_
  refine wz_iload_n (q := 7) dL_years_6 rfl rfl 3 rfl ?_
  exact wz_ok (As := [.inl a1, .inl a2, .inl a3]) (p1 := 10) (p2 := 11) (p3 := 12) (p4 := 23) hE mv_L_115 rfl (by decide) rfl dL_years_7 rfl dL_years_10 rfl dL_years_11 rfl dL_years_12 (by decide) dL_years_23 dL_years_24
set_option maxRecDepth 20000 in
theorem wk_years_n {l : Launch} {σ σ' : sm_M} {v : Int64} {a1 : Int32} {a2 : Int32} {a3 : Int32} (hE : sm_E l 5 mX11_years [.inr (.inl 0), .inl a1, .inl a2, .inl a3] σ (.inr "java/util/NoSuchElementException") σ') : wz_E l mL_years hL_years [.inr (.inl 0), .inl a1, .inl a2, .inl a3, .inr (.inl 5001)] σ v 1 σ' v 1 6 := by
  refine wz_meth (by decide) (Nat.le_of_ble_eq_true rfl) ?_
  refine wz_aload (q := 2) dL_years_0 rfl 4 rfl ?_
  refine wz_iconst (x := 0) (q := 3) dL_years_2 rfl (by decide) ?_
  refine wz_aload_n (q := 4) dL_years_3 rfl rfl 0 rfl ?_
  refine wz_iload_n (q := 5) dL_years_4 rfl rfl 1 rfl ?_
  refine wz_iload_n (q := 6) dL_years_5 rfl rfl 2 rfl ?_
  refine wz_iload_n (q := 7) dL_years_6 rfl rfl 3 rfl ?_
  exact wz_thr1 (As := [.inl a1, .inl a2, .inl a3]) (p2 := 17) hE mv_L_115 rfl (by decide) rfl dL_years_7 (by decide) (by decide) cl_L_18 (by decide) (Or.inr ⟨5, dL_years_15, rfl, by decide⟩) dL_years_17 (by decide) dL_years_18
set_option maxRecDepth 20000 in
theorem wk_years_i {l : Launch} {σ σ' : sm_M} {v : Int64} {a1 : Int32} {a2 : Int32} {a3 : Int32} (hE : sm_E l 5 mX11_years [.inr (.inl 0), .inl a1, .inl a2, .inl a3] σ (.inr "java/lang/IllegalArgumentException") σ') : wz_E l mL_years hL_years [.inr (.inl 0), .inl a1, .inl a2, .inl a3, .inr (.inl 5001)] σ v 2 σ' v 1 6 := by
  refine wz_meth (by decide) (Nat.le_of_ble_eq_true rfl) ?_
  refine wz_aload (q := 2) dL_years_0 rfl 4 rfl ?_
  refine wz_iconst (x := 0) (q := 3) dL_years_2 rfl (by decide) ?_
  refine wz_aload_n (q := 4) dL_years_3 rfl rfl 0 rfl ?_
  refine wz_iload_n (q := 5) dL_years_4 rfl rfl 1 rfl ?_
  refine wz_iload_n (q := 6) dL_years_5 rfl rfl 2 rfl ?_
  refine wz_iload_n (q := 7) dL_years_6 rfl rfl 3 rfl ?_
  exact wz_thr2 (As := [.inl a1, .inl a2, .inl a3]) (p2 := 21) hE mv_L_115 rfl (by decide) rfl dL_years_7 (by decide) (by decide) cl_L_18 (by decide) (by decide) cl_L_13 (Or.inr ⟨5, dL_years_19, rfl, by decide⟩) dL_years_21 (by decide) dL_years_22
theorem wk_years {l : Launch} (hl : l.stackTraces = false) {N : Nat} {R : Nat → Nat → Nat} {I J : Nat → Nat → Int32} {v : Int64} {a1 : Int32} {a2 : Int32} {a3 : Int32} {y : Int32 ⊕ String} {k : Int32} (h : f_X11_years N R 0 a1 a2 a3 I = some (y, J)) (hk : zo_k 1 2 y k) : ∃ (v' : Int64) (mc ms : Nat), mc ≤ 1 ∧ ms ≤ 6 ∧ (∀ r, y = .inl r → v' = r.toInt64) ∧ wz_E l mL_years hL_years [.inr (.inl 0), .inl a1, .inl a2, .inl a3, .inr (.inl 5001)] (I, R) v k (J, R) v' mc ms := by
  have h0 := e_X11_years hl h
  rcases y with r | E
  · have hk : k = 0 := hk
    subst hk
    have h1 : sm_E l 5 mX11_years [.inr (.inl 0), .inl a1, .inl a2, .inl a3] (I, R) (.inl (some (.inl r))) (J, R) := h0
    exact ⟨_, 0, 0, by decide, by decide, (fun r9 e9 => by cases e9; rfl), wk_years_ok h1⟩
  · rcases hk with ⟨rfl, h9, rfl⟩ | ⟨rfl, h9, rfl⟩
    · have h1 : sm_E l 5 mX11_years [.inr (.inl 0), .inl a1, .inl a2, .inl a3] (I, R) (.inr "java/util/NoSuchElementException") (J, R) := h0
      exact ⟨_, 1, 6, by decide, by decide, (fun r9 e9 => by cases e9), wk_years_n h1⟩
    · have h1 : sm_E l 5 mX11_years [.inr (.inl 0), .inl a1, .inl a2, .inl a3] (I, R) (.inr "java/lang/IllegalArgumentException") (J, R) := h0
      exact ⟨_, 1, 6, by decide, by decide, (fun r9 e9 => by cases e9), wk_years_i h1⟩
