/-! the words that name code -/
theorem mm_t1 : ∀ w ∈ tables_1_1, w ∈ lw_tbl := fun w h => List.mem_append_right _ (show w ∈ tables_1 from List.mem_append_left _ h)
theorem mm_t2 : ∀ w ∈ tables_1_2, w ∈ lw_tbl := fun w h => List.mem_append_right _ (show w ∈ tables_1 from List.mem_append_right _ (List.mem_append_left _ h))
theorem mm_t3 : ∀ w ∈ tables_1_3, w ∈ lw_tbl := fun w h => List.mem_append_right _ (show w ∈ tables_1 from List.mem_append_right _ (List.mem_append_right _ (List.mem_append_left _ h)))
theorem mm_t4 : ∀ w ∈ tables_1_4, w ∈ lw_tbl := fun w h => List.mem_append_right _ (show w ∈ tables_1 from List.mem_append_right _ (List.mem_append_right _ (List.mem_append_right _ (List.mem_append_left _ h))))
theorem mm_t5 : ∀ w ∈ tables_1_5, w ∈ lw_tbl := fun w h => List.mem_append_right _ (show w ∈ tables_1 from List.mem_append_right _ (List.mem_append_right _ (List.mem_append_right _ (List.mem_append_right _ (List.mem_append_left _ h)))))
theorem mm_t6 : ∀ w ∈ tables_1_6, w ∈ lw_tbl := fun w h => List.mem_append_right _ (show w ∈ tables_1 from List.mem_append_right _ (List.mem_append_right _ (List.mem_append_right _ (List.mem_append_right _ (List.mem_append_right _ (List.mem_append_left _ h))))))
theorem mm_t7 : ∀ w ∈ tables_1_7, w ∈ lw_tbl := fun w h => List.mem_append_right _ (show w ∈ tables_1 from List.mem_append_right _ (List.mem_append_right _ (List.mem_append_right _ (List.mem_append_right _ (List.mem_append_right _ (List.mem_append_right _ (h)))))))
set_option maxRecDepth 10000 in
theorem mm_cw1 : Cond.code (mm_y 1) (mm_bytes 1) (mm_mL 1) (mm_rt 1) ∈ lw_tbl := mm_t1 _ (List.mem_of_getElem? (i := 26) rfl)
set_option maxRecDepth 10000 in
theorem mm_cw2 : Cond.code (mm_y 2) (mm_bytes 2) (mm_mL 2) (mm_rt 2) ∈ lw_tbl := mm_t1 _ (List.mem_of_getElem? (i := 34) rfl)
set_option maxRecDepth 10000 in
theorem mm_cw3 : Cond.code (mm_y 3) (mm_bytes 3) (mm_mL 3) (mm_rt 3) ∈ lw_tbl := mm_t1 _ (List.mem_of_getElem? (i := 67) rfl)
set_option maxRecDepth 10000 in
theorem mm_cw4 : Cond.code (mm_y 4) (mm_bytes 4) (mm_mL 4) (mm_rt 4) ∈ lw_tbl := mm_t1 _ (List.mem_of_getElem? (i := 84) rfl)
set_option maxRecDepth 10000 in
theorem mm_cw5 : Cond.code (mm_y 5) (mm_bytes 5) (mm_mL 5) (mm_rt 5) ∈ lw_tbl := mm_t1 _ (List.mem_of_getElem? (i := 133) rfl)
set_option maxRecDepth 10000 in
theorem mm_cw6 : Cond.code (mm_y 6) (mm_bytes 6) (mm_mL 6) (mm_rt 6) ∈ lw_tbl := mm_t1 _ (List.mem_of_getElem? (i := 150) rfl)
set_option maxRecDepth 10000 in
theorem mm_cw7 : Cond.code (mm_y 7) (mm_bytes 7) (mm_mL 7) (mm_rt 7) ∈ lw_tbl := mm_t1 _ (List.mem_of_getElem? (i := 153) rfl)
set_option maxRecDepth 10000 in
theorem mm_cw8 : Cond.code (mm_y 8) (mm_bytes 8) (mm_mL 8) (mm_rt 8) ∈ lw_tbl := mm_t1 _ (List.mem_of_getElem? (i := 159) rfl)
set_option maxRecDepth 10000 in
theorem mm_cw9 : Cond.code (mm_y 9) (mm_bytes 9) (mm_mL 9) (mm_rt 9) ∈ lw_tbl := mm_t2 _ (List.mem_of_getElem? (i := 28) rfl)
set_option maxRecDepth 10000 in
theorem mm_cw10 : Cond.code (mm_y 10) (mm_bytes 10) (mm_mL 10) (mm_rt 10) ∈ lw_tbl := mm_t2 _ (List.mem_of_getElem? (i := 34) rfl)
set_option maxRecDepth 10000 in
theorem mm_cw11 : Cond.code (mm_y 11) (mm_bytes 11) (mm_mL 11) (mm_rt 11) ∈ lw_tbl := mm_t2 _ (List.mem_of_getElem? (i := 65) rfl)
set_option maxRecDepth 10000 in
theorem mm_cw12 : Cond.code (mm_y 12) (mm_bytes 12) (mm_mL 12) (mm_rt 12) ∈ lw_tbl := mm_t2 _ (List.mem_of_getElem? (i := 113) rfl)
set_option maxRecDepth 10000 in
theorem mm_cw13 : Cond.code (mm_y 13) (mm_bytes 13) (mm_mL 13) (mm_rt 13) ∈ lw_tbl := mm_t2 _ (List.mem_of_getElem? (i := 122) rfl)
set_option maxRecDepth 10000 in
theorem mm_cw14 : Cond.code (mm_y 14) (mm_bytes 14) (mm_mL 14) (mm_rt 14) ∈ lw_tbl := mm_t2 _ (List.mem_of_getElem? (i := 163) rfl)
set_option maxRecDepth 10000 in
theorem mm_cw15 : Cond.codeWith (mm_y 15) (mm_bytes 15) (mm_mL 15) (mm_rt 15) (mm_hh 15) ∈ lw_tbl := mm_t2 _ (List.mem_of_getElem? (i := 167) rfl)
set_option maxRecDepth 10000 in
theorem mm_cw16 : Cond.code (mm_y 16) (mm_bytes 16) (mm_mL 16) (mm_rt 16) ∈ lw_tbl := mm_t2 _ (List.mem_of_getElem? (i := 172) rfl)
set_option maxRecDepth 10000 in
theorem mm_cw17 : Cond.code (mm_y 17) (mm_bytes 17) (mm_mL 17) (mm_rt 17) ∈ lw_tbl := mm_t2 _ (List.mem_of_getElem? (i := 176) rfl)
set_option maxRecDepth 10000 in
theorem mm_cw18 : Cond.code (mm_y 18) (mm_bytes 18) (mm_mL 18) (mm_rt 18) ∈ lw_tbl := mm_t2 _ (List.mem_of_getElem? (i := 181) rfl)
set_option maxRecDepth 10000 in
theorem mm_cw19 : Cond.code (mm_y 19) (mm_bytes 19) (mm_mL 19) (mm_rt 19) ∈ lw_tbl := mm_t2 _ (List.mem_of_getElem? (i := 185) rfl)
set_option maxRecDepth 10000 in
theorem mm_cw20 : Cond.code (mm_y 20) (mm_bytes 20) (mm_mL 20) (mm_rt 20) ∈ lw_tbl := mm_t2 _ (List.mem_of_getElem? (i := 189) rfl)
set_option maxRecDepth 10000 in
theorem mm_cw21 : Cond.code (mm_y 21) (mm_bytes 21) (mm_mL 21) (mm_rt 21) ∈ lw_tbl := mm_t3 _ (List.mem_of_getElem? (i := 16) rfl)
set_option maxRecDepth 10000 in
theorem mm_cw22 : Cond.code (mm_y 22) (mm_bytes 22) (mm_mL 22) (mm_rt 22) ∈ lw_tbl := mm_t3 _ (List.mem_of_getElem? (i := 20) rfl)
set_option maxRecDepth 10000 in
theorem mm_cw23 : Cond.code (mm_y 23) (mm_bytes 23) (mm_mL 23) (mm_rt 23) ∈ lw_tbl := mm_t3 _ (List.mem_of_getElem? (i := 24) rfl)
set_option maxRecDepth 10000 in
theorem mm_cw24 : Cond.code (mm_y 24) (mm_bytes 24) (mm_mL 24) (mm_rt 24) ∈ lw_tbl := mm_t3 _ (List.mem_of_getElem? (i := 31) rfl)
set_option maxRecDepth 10000 in
theorem mm_cw25 : Cond.code (mm_y 25) (mm_bytes 25) (mm_mL 25) (mm_rt 25) ∈ lw_tbl := mm_t3 _ (List.mem_of_getElem? (i := 35) rfl)
set_option maxRecDepth 10000 in
theorem mm_cw26 : Cond.code (mm_y 26) (mm_bytes 26) (mm_mL 26) (mm_rt 26) ∈ lw_tbl := mm_t3 _ (List.mem_of_getElem? (i := 39) rfl)
set_option maxRecDepth 10000 in
theorem mm_cw27 : Cond.code (mm_y 27) (mm_bytes 27) (mm_mL 27) (mm_rt 27) ∈ lw_tbl := mm_t3 _ (List.mem_of_getElem? (i := 43) rfl)
set_option maxRecDepth 10000 in
theorem mm_cw28 : Cond.code (mm_y 28) (mm_bytes 28) (mm_mL 28) (mm_rt 28) ∈ lw_tbl := mm_t3 _ (List.mem_of_getElem? (i := 48) rfl)
set_option maxRecDepth 10000 in
theorem mm_cw29 : Cond.code (mm_y 29) (mm_bytes 29) (mm_mL 29) (mm_rt 29) ∈ lw_tbl := mm_t3 _ (List.mem_of_getElem? (i := 52) rfl)
set_option maxRecDepth 10000 in
theorem mm_cw30 : Cond.code (mm_y 30) (mm_bytes 30) (mm_mL 30) (mm_rt 30) ∈ lw_tbl := mm_t3 _ (List.mem_of_getElem? (i := 63) rfl)
set_option maxRecDepth 10000 in
theorem mm_cw31 : Cond.code (mm_y 31) (mm_bytes 31) (mm_mL 31) (mm_rt 31) ∈ lw_tbl := mm_t3 _ (List.mem_of_getElem? (i := 67) rfl)
set_option maxRecDepth 10000 in
theorem mm_cw32 : Cond.code (mm_y 32) (mm_bytes 32) (mm_mL 32) (mm_rt 32) ∈ lw_tbl := mm_t3 _ (List.mem_of_getElem? (i := 73) rfl)
set_option maxRecDepth 10000 in
theorem mm_cw33 : Cond.code (mm_y 33) (mm_bytes 33) (mm_mL 33) (mm_rt 33) ∈ lw_tbl := mm_t3 _ (List.mem_of_getElem? (i := 77) rfl)
set_option maxRecDepth 10000 in
theorem mm_cw34 : Cond.code (mm_y 34) (mm_bytes 34) (mm_mL 34) (mm_rt 34) ∈ lw_tbl := mm_t3 _ (List.mem_of_getElem? (i := 84) rfl)
set_option maxRecDepth 10000 in
theorem mm_cw35 : Cond.code (mm_y 35) (mm_bytes 35) (mm_mL 35) (mm_rt 35) ∈ lw_tbl := mm_t3 _ (List.mem_of_getElem? (i := 88) rfl)
set_option maxRecDepth 10000 in
theorem mm_cw36 : Cond.code (mm_y 36) (mm_bytes 36) (mm_mL 36) (mm_rt 36) ∈ lw_tbl := mm_t3 _ (List.mem_of_getElem? (i := 92) rfl)
set_option maxRecDepth 10000 in
theorem mm_cw37 : Cond.code (mm_y 37) (mm_bytes 37) (mm_mL 37) (mm_rt 37) ∈ lw_tbl := mm_t3 _ (List.mem_of_getElem? (i := 96) rfl)
set_option maxRecDepth 10000 in
theorem mm_cw38 : Cond.code (mm_y 38) (mm_bytes 38) (mm_mL 38) (mm_rt 38) ∈ lw_tbl := mm_t3 _ (List.mem_of_getElem? (i := 104) rfl)
set_option maxRecDepth 10000 in
theorem mm_cw39 : Cond.code (mm_y 39) (mm_bytes 39) (mm_mL 39) (mm_rt 39) ∈ lw_tbl := mm_t3 _ (List.mem_of_getElem? (i := 110) rfl)
set_option maxRecDepth 10000 in
theorem mm_cw40 : Cond.code (mm_y 40) (mm_bytes 40) (mm_mL 40) (mm_rt 40) ∈ lw_tbl := mm_t3 _ (List.mem_of_getElem? (i := 114) rfl)
set_option maxRecDepth 10000 in
theorem mm_cw41 : Cond.code (mm_y 41) (mm_bytes 41) (mm_mL 41) (mm_rt 41) ∈ lw_tbl := mm_t3 _ (List.mem_of_getElem? (i := 118) rfl)
set_option maxRecDepth 10000 in
theorem mm_cw42 : Cond.code (mm_y 42) (mm_bytes 42) (mm_mL 42) (mm_rt 42) ∈ lw_tbl := mm_t3 _ (List.mem_of_getElem? (i := 122) rfl)
set_option maxRecDepth 10000 in
theorem mm_cw43 : Cond.code (mm_y 43) (mm_bytes 43) (mm_mL 43) (mm_rt 43) ∈ lw_tbl := mm_t3 _ (List.mem_of_getElem? (i := 128) rfl)
set_option maxRecDepth 10000 in
theorem mm_cw44 : Cond.code (mm_y 44) (mm_bytes 44) (mm_mL 44) (mm_rt 44) ∈ lw_tbl := mm_t3 _ (List.mem_of_getElem? (i := 132) rfl)
set_option maxRecDepth 10000 in
theorem mm_cw45 : Cond.code (mm_y 45) (mm_bytes 45) (mm_mL 45) (mm_rt 45) ∈ lw_tbl := mm_t3 _ (List.mem_of_getElem? (i := 136) rfl)
set_option maxRecDepth 10000 in
theorem mm_cw46 : Cond.code (mm_y 46) (mm_bytes 46) (mm_mL 46) (mm_rt 46) ∈ lw_tbl := mm_t3 _ (List.mem_of_getElem? (i := 140) rfl)
set_option maxRecDepth 10000 in
theorem mm_cw47 : Cond.code (mm_y 47) (mm_bytes 47) (mm_mL 47) (mm_rt 47) ∈ lw_tbl := mm_t3 _ (List.mem_of_getElem? (i := 144) rfl)
set_option maxRecDepth 10000 in
theorem mm_cw48 : Cond.code (mm_y 48) (mm_bytes 48) (mm_mL 48) (mm_rt 48) ∈ lw_tbl := mm_t3 _ (List.mem_of_getElem? (i := 148) rfl)
set_option maxRecDepth 10000 in
theorem mm_cw49 : Cond.code (mm_y 49) (mm_bytes 49) (mm_mL 49) (mm_rt 49) ∈ lw_tbl := mm_t3 _ (List.mem_of_getElem? (i := 151) rfl)
set_option maxRecDepth 10000 in
theorem mm_cw50 : Cond.code (mm_y 50) (mm_bytes 50) (mm_mL 50) (mm_rt 50) ∈ lw_tbl := mm_t3 _ (List.mem_of_getElem? (i := 168) rfl)
set_option maxRecDepth 10000 in
theorem mm_cw51 : Cond.code (mm_y 51) (mm_bytes 51) (mm_mL 51) (mm_rt 51) ∈ lw_tbl := mm_t3 _ (List.mem_of_getElem? (i := 172) rfl)
set_option maxRecDepth 10000 in
theorem mm_cw52 : Cond.code (mm_y 52) (mm_bytes 52) (mm_mL 52) (mm_rt 52) ∈ lw_tbl := mm_t3 _ (List.mem_of_getElem? (i := 177) rfl)
set_option maxRecDepth 10000 in
theorem mm_cw53 : Cond.code (mm_y 53) (mm_bytes 53) (mm_mL 53) (mm_rt 53) ∈ lw_tbl := mm_t3 _ (List.mem_of_getElem? (i := 182) rfl)
set_option maxRecDepth 10000 in
theorem mm_cw54 : Cond.code (mm_y 54) (mm_bytes 54) (mm_mL 54) (mm_rt 54) ∈ lw_tbl := mm_t3 _ (List.mem_of_getElem? (i := 186) rfl)
set_option maxRecDepth 10000 in
theorem mm_cw55 : Cond.code (mm_y 55) (mm_bytes 55) (mm_mL 55) (mm_rt 55) ∈ lw_tbl := mm_t3 _ (List.mem_of_getElem? (i := 190) rfl)
set_option maxRecDepth 10000 in
theorem mm_cw56 : Cond.code (mm_y 56) (mm_bytes 56) (mm_mL 56) (mm_rt 56) ∈ lw_tbl := mm_t3 _ (List.mem_of_getElem? (i := 194) rfl)
set_option maxRecDepth 10000 in
theorem mm_cw57 : Cond.code (mm_y 57) (mm_bytes 57) (mm_mL 57) (mm_rt 57) ∈ lw_tbl := mm_t3 _ (List.mem_of_getElem? (i := 198) rfl)
set_option maxRecDepth 10000 in
theorem mm_cw58 : Cond.code (mm_y 58) (mm_bytes 58) (mm_mL 58) (mm_rt 58) ∈ lw_tbl := mm_t3 _ (List.mem_of_getElem? (i := 202) rfl)
set_option maxRecDepth 10000 in
theorem mm_cw59 : Cond.code (mm_y 59) (mm_bytes 59) (mm_mL 59) (mm_rt 59) ∈ lw_tbl := mm_t3 _ (List.mem_of_getElem? (i := 206) rfl)
set_option maxRecDepth 10000 in
theorem mm_cw60 : Cond.code (mm_y 60) (mm_bytes 60) (mm_mL 60) (mm_rt 60) ∈ lw_tbl := mm_t3 _ (List.mem_of_getElem? (i := 210) rfl)
set_option maxRecDepth 10000 in
theorem mm_cw61 : Cond.code (mm_y 61) (mm_bytes 61) (mm_mL 61) (mm_rt 61) ∈ lw_tbl := mm_t3 _ (List.mem_of_getElem? (i := 220) rfl)
set_option maxRecDepth 10000 in
theorem mm_cw62 : Cond.code (mm_y 62) (mm_bytes 62) (mm_mL 62) (mm_rt 62) ∈ lw_tbl := mm_t3 _ (List.mem_of_getElem? (i := 224) rfl)
set_option maxRecDepth 10000 in
theorem mm_cw63 : Cond.code (mm_y 63) (mm_bytes 63) (mm_mL 63) (mm_rt 63) ∈ lw_tbl := mm_t3 _ (List.mem_of_getElem? (i := 231) rfl)
set_option maxRecDepth 10000 in
theorem mm_cw64 : Cond.code (mm_y 64) (mm_bytes 64) (mm_mL 64) (mm_rt 64) ∈ lw_tbl := mm_t3 _ (List.mem_of_getElem? (i := 235) rfl)
set_option maxRecDepth 10000 in
theorem mm_cw65 : Cond.code (mm_y 65) (mm_bytes 65) (mm_mL 65) (mm_rt 65) ∈ lw_tbl := mm_t4 _ (List.mem_of_getElem? (i := 2) rfl)
set_option maxRecDepth 10000 in
theorem mm_cw66 : Cond.code (mm_y 66) (mm_bytes 66) (mm_mL 66) (mm_rt 66) ∈ lw_tbl := mm_t4 _ (List.mem_of_getElem? (i := 5) rfl)
set_option maxRecDepth 10000 in
theorem mm_cw67 : Cond.code (mm_y 67) (mm_bytes 67) (mm_mL 67) (mm_rt 67) ∈ lw_tbl := mm_t4 _ (List.mem_of_getElem? (i := 17) rfl)
set_option maxRecDepth 10000 in
theorem mm_cw68 : Cond.code (mm_y 68) (mm_bytes 68) (mm_mL 68) (mm_rt 68) ∈ lw_tbl := mm_t4 _ (List.mem_of_getElem? (i := 21) rfl)
set_option maxRecDepth 10000 in
theorem mm_cw69 : Cond.code (mm_y 69) (mm_bytes 69) (mm_mL 69) (mm_rt 69) ∈ lw_tbl := mm_t4 _ (List.mem_of_getElem? (i := 27) rfl)
set_option maxRecDepth 10000 in
theorem mm_cw70 : Cond.code (mm_y 70) (mm_bytes 70) (mm_mL 70) (mm_rt 70) ∈ lw_tbl := mm_t4 _ (List.mem_of_getElem? (i := 33) rfl)
set_option maxRecDepth 10000 in
theorem mm_cw71 : Cond.code (mm_y 71) (mm_bytes 71) (mm_mL 71) (mm_rt 71) ∈ lw_tbl := mm_t4 _ (List.mem_of_getElem? (i := 40) rfl)
set_option maxRecDepth 10000 in
theorem mm_cw72 : Cond.code (mm_y 72) (mm_bytes 72) (mm_mL 72) (mm_rt 72) ∈ lw_tbl := mm_t4 _ (List.mem_of_getElem? (i := 44) rfl)
set_option maxRecDepth 10000 in
theorem mm_cw73 : Cond.code (mm_y 73) (mm_bytes 73) (mm_mL 73) (mm_rt 73) ∈ lw_tbl := mm_t4 _ (List.mem_of_getElem? (i := 48) rfl)
set_option maxRecDepth 10000 in
theorem mm_cw74 : Cond.code (mm_y 74) (mm_bytes 74) (mm_mL 74) (mm_rt 74) ∈ lw_tbl := mm_t4 _ (List.mem_of_getElem? (i := 51) rfl)
set_option maxRecDepth 10000 in
theorem mm_cw75 : Cond.code (mm_y 75) (mm_bytes 75) (mm_mL 75) (mm_rt 75) ∈ lw_tbl := mm_t4 _ (List.mem_of_getElem? (i := 63) rfl)
set_option maxRecDepth 10000 in
theorem mm_cw76 : Cond.code (mm_y 76) (mm_bytes 76) (mm_mL 76) (mm_rt 76) ∈ lw_tbl := mm_t4 _ (List.mem_of_getElem? (i := 66) rfl)
set_option maxRecDepth 10000 in
theorem mm_cw77 : Cond.code (mm_y 77) (mm_bytes 77) (mm_mL 77) (mm_rt 77) ∈ lw_tbl := mm_t4 _ (List.mem_of_getElem? (i := 71) rfl)
set_option maxRecDepth 10000 in
theorem mm_cw78 : Cond.code (mm_y 78) (mm_bytes 78) (mm_mL 78) (mm_rt 78) ∈ lw_tbl := mm_t4 _ (List.mem_of_getElem? (i := 75) rfl)
set_option maxRecDepth 10000 in
theorem mm_cw79 : Cond.code (mm_y 79) (mm_bytes 79) (mm_mL 79) (mm_rt 79) ∈ lw_tbl := mm_t4 _ (List.mem_of_getElem? (i := 79) rfl)
set_option maxRecDepth 10000 in
theorem mm_cw80 : Cond.code (mm_y 80) (mm_bytes 80) (mm_mL 80) (mm_rt 80) ∈ lw_tbl := mm_t4 _ (List.mem_of_getElem? (i := 83) rfl)
set_option maxRecDepth 10000 in
theorem mm_cw81 : Cond.code (mm_y 81) (mm_bytes 81) (mm_mL 81) (mm_rt 81) ∈ lw_tbl := mm_t4 _ (List.mem_of_getElem? (i := 86) rfl)
set_option maxRecDepth 10000 in
theorem mm_cw82 : Cond.code (mm_y 82) (mm_bytes 82) (mm_mL 82) (mm_rt 82) ∈ lw_tbl := mm_t4 _ (List.mem_of_getElem? (i := 90) rfl)
set_option maxRecDepth 10000 in
theorem mm_cw83 : Cond.code (mm_y 83) (mm_bytes 83) (mm_mL 83) (mm_rt 83) ∈ lw_tbl := mm_t4 _ (List.mem_of_getElem? (i := 93) rfl)
set_option maxRecDepth 10000 in
theorem mm_cw84 : Cond.code (mm_y 84) (mm_bytes 84) (mm_mL 84) (mm_rt 84) ∈ lw_tbl := mm_t4 _ (List.mem_of_getElem? (i := 96) rfl)
set_option maxRecDepth 10000 in
theorem mm_cw85 : Cond.code (mm_y 85) (mm_bytes 85) (mm_mL 85) (mm_rt 85) ∈ lw_tbl := mm_t4 _ (List.mem_of_getElem? (i := 99) rfl)
set_option maxRecDepth 10000 in
theorem mm_cw86 : Cond.code (mm_y 86) (mm_bytes 86) (mm_mL 86) (mm_rt 86) ∈ lw_tbl := mm_t4 _ (List.mem_of_getElem? (i := 103) rfl)
set_option maxRecDepth 10000 in
theorem mm_cw87 : Cond.code (mm_y 87) (mm_bytes 87) (mm_mL 87) (mm_rt 87) ∈ lw_tbl := mm_t4 _ (List.mem_of_getElem? (i := 108) rfl)
set_option maxRecDepth 10000 in
theorem mm_cw88 : Cond.code (mm_y 88) (mm_bytes 88) (mm_mL 88) (mm_rt 88) ∈ lw_tbl := mm_t4 _ (List.mem_of_getElem? (i := 112) rfl)
set_option maxRecDepth 10000 in
theorem mm_cw89 : Cond.code (mm_y 89) (mm_bytes 89) (mm_mL 89) (mm_rt 89) ∈ lw_tbl := mm_t4 _ (List.mem_of_getElem? (i := 116) rfl)
set_option maxRecDepth 10000 in
theorem mm_cw90 : Cond.code (mm_y 90) (mm_bytes 90) (mm_mL 90) (mm_rt 90) ∈ lw_tbl := mm_t4 _ (List.mem_of_getElem? (i := 120) rfl)
set_option maxRecDepth 10000 in
theorem mm_cw91 : Cond.code (mm_y 91) (mm_bytes 91) (mm_mL 91) (mm_rt 91) ∈ lw_tbl := mm_t4 _ (List.mem_of_getElem? (i := 124) rfl)
set_option maxRecDepth 10000 in
theorem mm_cw92 : Cond.codeWith (mm_y 92) (mm_bytes 92) (mm_mL 92) (mm_rt 92) (mm_hh 92) ∈ lw_tbl := mm_t4 _ (List.mem_of_getElem? (i := 127) rfl)
set_option maxRecDepth 10000 in
theorem mm_cw93 : Cond.code (mm_y 93) (mm_bytes 93) (mm_mL 93) (mm_rt 93) ∈ lw_tbl := mm_t4 _ (List.mem_of_getElem? (i := 132) rfl)
set_option maxRecDepth 10000 in
theorem mm_cw94 : Cond.codeWith (mm_y 94) (mm_bytes 94) (mm_mL 94) (mm_rt 94) (mm_hh 94) ∈ lw_tbl := mm_t4 _ (List.mem_of_getElem? (i := 154) rfl)
set_option maxRecDepth 10000 in
theorem mm_cw95 : Cond.code (mm_y 95) (mm_bytes 95) (mm_mL 95) (mm_rt 95) ∈ lw_tbl := mm_t4 _ (List.mem_of_getElem? (i := 159) rfl)
set_option maxRecDepth 10000 in
theorem mm_cw96 : Cond.code (mm_y 96) (mm_bytes 96) (mm_mL 96) (mm_rt 96) ∈ lw_tbl := mm_t4 _ (List.mem_of_getElem? (i := 163) rfl)
set_option maxRecDepth 10000 in
theorem mm_cw97 : Cond.code (mm_y 97) (mm_bytes 97) (mm_mL 97) (mm_rt 97) ∈ lw_tbl := mm_t4 _ (List.mem_of_getElem? (i := 167) rfl)
set_option maxRecDepth 10000 in
theorem mm_cw98 : Cond.code (mm_y 98) (mm_bytes 98) (mm_mL 98) (mm_rt 98) ∈ lw_tbl := mm_t4 _ (List.mem_of_getElem? (i := 186) rfl)
set_option maxRecDepth 10000 in
theorem mm_cw99 : Cond.code (mm_y 99) (mm_bytes 99) (mm_mL 99) (mm_rt 99) ∈ lw_tbl := mm_t4 _ (List.mem_of_getElem? (i := 191) rfl)
set_option maxRecDepth 10000 in
theorem mm_cw100 : Cond.codeWith (mm_y 100) (mm_bytes 100) (mm_mL 100) (mm_rt 100) (mm_hh 100) ∈ lw_tbl := mm_t4 _ (List.mem_of_getElem? (i := 197) rfl)
set_option maxRecDepth 10000 in
theorem mm_cw101 : Cond.code (mm_y 101) (mm_bytes 101) (mm_mL 101) (mm_rt 101) ∈ lw_tbl := mm_t4 _ (List.mem_of_getElem? (i := 201) rfl)
set_option maxRecDepth 10000 in
theorem mm_cw102 : Cond.codeWith (mm_y 102) (mm_bytes 102) (mm_mL 102) (mm_rt 102) (mm_hh 102) ∈ lw_tbl := mm_t4 _ (List.mem_of_getElem? (i := 204) rfl)
set_option maxRecDepth 10000 in
theorem mm_cw103 : Cond.code (mm_y 103) (mm_bytes 103) (mm_mL 103) (mm_rt 103) ∈ lw_tbl := mm_t4 _ (List.mem_of_getElem? (i := 208) rfl)
set_option maxRecDepth 10000 in
theorem mm_cw104 : Cond.code (mm_y 104) (mm_bytes 104) (mm_mL 104) (mm_rt 104) ∈ lw_tbl := mm_t4 _ (List.mem_of_getElem? (i := 211) rfl)
set_option maxRecDepth 10000 in
theorem mm_cw105 : Cond.codeWith (mm_y 105) (mm_bytes 105) (mm_mL 105) (mm_rt 105) (mm_hh 105) ∈ lw_tbl := mm_t4 _ (List.mem_of_getElem? (i := 214) rfl)
set_option maxRecDepth 10000 in
theorem mm_cw106 : Cond.code (mm_y 106) (mm_bytes 106) (mm_mL 106) (mm_rt 106) ∈ lw_tbl := mm_t4 _ (List.mem_of_getElem? (i := 218) rfl)
set_option maxRecDepth 10000 in
theorem mm_cw107 : Cond.code (mm_y 107) (mm_bytes 107) (mm_mL 107) (mm_rt 107) ∈ lw_tbl := mm_t4 _ (List.mem_of_getElem? (i := 223) rfl)
set_option maxRecDepth 10000 in
theorem mm_cw108 : Cond.code (mm_y 108) (mm_bytes 108) (mm_mL 108) (mm_rt 108) ∈ lw_tbl := mm_t4 _ (List.mem_of_getElem? (i := 227) rfl)
set_option maxRecDepth 10000 in
theorem mm_cw109 : Cond.code (mm_y 109) (mm_bytes 109) (mm_mL 109) (mm_rt 109) ∈ lw_tbl := mm_t4 _ (List.mem_of_getElem? (i := 232) rfl)
set_option maxRecDepth 10000 in
theorem mm_cw110 : Cond.code (mm_y 110) (mm_bytes 110) (mm_mL 110) (mm_rt 110) ∈ lw_tbl := mm_t4 _ (List.mem_of_getElem? (i := 237) rfl)
set_option maxRecDepth 10000 in
theorem mm_cw111 : Cond.code (mm_y 111) (mm_bytes 111) (mm_mL 111) (mm_rt 111) ∈ lw_tbl := mm_t5 _ (List.mem_of_getElem? (i := 2) rfl)
set_option maxRecDepth 10000 in
theorem mm_cw112 : Cond.code (mm_y 112) (mm_bytes 112) (mm_mL 112) (mm_rt 112) ∈ lw_tbl := mm_t5 _ (List.mem_of_getElem? (i := 6) rfl)
set_option maxRecDepth 10000 in
theorem mm_cw113 : Cond.code (mm_y 113) (mm_bytes 113) (mm_mL 113) (mm_rt 113) ∈ lw_tbl := mm_t5 _ (List.mem_of_getElem? (i := 10) rfl)
set_option maxRecDepth 10000 in
theorem mm_cw114 : Cond.code (mm_y 114) (mm_bytes 114) (mm_mL 114) (mm_rt 114) ∈ lw_tbl := mm_t5 _ (List.mem_of_getElem? (i := 17) rfl)
set_option maxRecDepth 10000 in
theorem mm_cw115 : Cond.codeWith (mm_y 115) (mm_bytes 115) (mm_mL 115) (mm_rt 115) (mm_hh 115) ∈ lw_tbl := mm_t5 _ (List.mem_of_getElem? (i := 20) rfl)
set_option maxRecDepth 10000 in
theorem mm_cw116 : Cond.code (mm_y 116) (mm_bytes 116) (mm_mL 116) (mm_rt 116) ∈ lw_tbl := mm_t5 _ (List.mem_of_getElem? (i := 24) rfl)
set_option maxRecDepth 10000 in
theorem mm_cw117 : Cond.codeWith (mm_y 117) (mm_bytes 117) (mm_mL 117) (mm_rt 117) (mm_hh 117) ∈ lw_tbl := mm_t5 _ (List.mem_of_getElem? (i := 28) rfl)
set_option maxRecDepth 10000 in
theorem mm_cw118 : Cond.code (mm_y 118) (mm_bytes 118) (mm_mL 118) (mm_rt 118) ∈ lw_tbl := mm_t5 _ (List.mem_of_getElem? (i := 33) rfl)
set_option maxRecDepth 10000 in
theorem mm_cw119 : Cond.code (mm_y 119) (mm_bytes 119) (mm_mL 119) (mm_rt 119) ∈ lw_tbl := mm_t5 _ (List.mem_of_getElem? (i := 39) rfl)
set_option maxRecDepth 10000 in
theorem mm_cw120 : Cond.codeWith (mm_y 120) (mm_bytes 120) (mm_mL 120) (mm_rt 120) (mm_hh 120) ∈ lw_tbl := mm_t5 _ (List.mem_of_getElem? (i := 43) rfl)
set_option maxRecDepth 10000 in
theorem mm_cw121 : Cond.code (mm_y 121) (mm_bytes 121) (mm_mL 121) (mm_rt 121) ∈ lw_tbl := mm_t5 _ (List.mem_of_getElem? (i := 47) rfl)
set_option maxRecDepth 10000 in
theorem mm_cw122 : Cond.codeWith (mm_y 122) (mm_bytes 122) (mm_mL 122) (mm_rt 122) (mm_hh 122) ∈ lw_tbl := mm_t5 _ (List.mem_of_getElem? (i := 50) rfl)
set_option maxRecDepth 10000 in
theorem mm_cw123 : Cond.code (mm_y 123) (mm_bytes 123) (mm_mL 123) (mm_rt 123) ∈ lw_tbl := mm_t5 _ (List.mem_of_getElem? (i := 54) rfl)
set_option maxRecDepth 10000 in
theorem mm_cw124 : Cond.codeWith (mm_y 124) (mm_bytes 124) (mm_mL 124) (mm_rt 124) (mm_hh 124) ∈ lw_tbl := mm_t5 _ (List.mem_of_getElem? (i := 57) rfl)
set_option maxRecDepth 10000 in
theorem mm_cw125 : Cond.code (mm_y 125) (mm_bytes 125) (mm_mL 125) (mm_rt 125) ∈ lw_tbl := mm_t5 _ (List.mem_of_getElem? (i := 61) rfl)
set_option maxRecDepth 10000 in
theorem mm_cw126 : Cond.code (mm_y 126) (mm_bytes 126) (mm_mL 126) (mm_rt 126) ∈ lw_tbl := mm_t5 _ (List.mem_of_getElem? (i := 65) rfl)
set_option maxRecDepth 10000 in
theorem mm_cw127 : Cond.codeWith (mm_y 127) (mm_bytes 127) (mm_mL 127) (mm_rt 127) (mm_hh 127) ∈ lw_tbl := mm_t5 _ (List.mem_of_getElem? (i := 69) rfl)
set_option maxRecDepth 10000 in
theorem mm_cw128 : Cond.code (mm_y 128) (mm_bytes 128) (mm_mL 128) (mm_rt 128) ∈ lw_tbl := mm_t5 _ (List.mem_of_getElem? (i := 73) rfl)
set_option maxRecDepth 10000 in
theorem mm_cw129 : Cond.codeWith (mm_y 129) (mm_bytes 129) (mm_mL 129) (mm_rt 129) (mm_hh 129) ∈ lw_tbl := mm_t5 _ (List.mem_of_getElem? (i := 76) rfl)
set_option maxRecDepth 10000 in
theorem mm_cw130 : Cond.code (mm_y 130) (mm_bytes 130) (mm_mL 130) (mm_rt 130) ∈ lw_tbl := mm_t5 _ (List.mem_of_getElem? (i := 80) rfl)
set_option maxRecDepth 10000 in
theorem mm_cw131 : Cond.codeWith (mm_y 131) (mm_bytes 131) (mm_mL 131) (mm_rt 131) (mm_hh 131) ∈ lw_tbl := mm_t5 _ (List.mem_of_getElem? (i := 83) rfl)
set_option maxRecDepth 10000 in
theorem mm_cw132 : Cond.code (mm_y 132) (mm_bytes 132) (mm_mL 132) (mm_rt 132) ∈ lw_tbl := mm_t5 _ (List.mem_of_getElem? (i := 87) rfl)
set_option maxRecDepth 10000 in
theorem mm_cw133 : Cond.code (mm_y 133) (mm_bytes 133) (mm_mL 133) (mm_rt 133) ∈ lw_tbl := mm_t5 _ (List.mem_of_getElem? (i := 92) rfl)
set_option maxRecDepth 10000 in
theorem mm_cw134 : Cond.code (mm_y 134) (mm_bytes 134) (mm_mL 134) (mm_rt 134) ∈ lw_tbl := mm_t6 _ (List.mem_of_getElem? (i := 49) rfl)
set_option maxRecDepth 10000 in
theorem mm_cw135 : Cond.code (mm_y 135) (mm_bytes 135) (mm_mL 135) (mm_rt 135) ∈ lw_tbl := mm_t6 _ (List.mem_of_getElem? (i := 53) rfl)
set_option maxRecDepth 10000 in
theorem mm_cw136 : Cond.code (mm_y 136) (mm_bytes 136) (mm_mL 136) (mm_rt 136) ∈ lw_tbl := mm_t6 _ (List.mem_of_getElem? (i := 56) rfl)
set_option maxRecDepth 10000 in
theorem mm_cw137 : Cond.code (mm_y 137) (mm_bytes 137) (mm_mL 137) (mm_rt 137) ∈ lw_tbl := mm_t6 _ (List.mem_of_getElem? (i := 60) rfl)
set_option maxRecDepth 10000 in
theorem mm_cw138 : Cond.code (mm_y 138) (mm_bytes 138) (mm_mL 138) (mm_rt 138) ∈ lw_tbl := mm_t6 _ (List.mem_of_getElem? (i := 64) rfl)
set_option maxRecDepth 10000 in
theorem mm_cw139 : Cond.code (mm_y 139) (mm_bytes 139) (mm_mL 139) (mm_rt 139) ∈ lw_tbl := mm_t6 _ (List.mem_of_getElem? (i := 69) rfl)
set_option maxRecDepth 10000 in
theorem mm_cw140 : Cond.code (mm_y 140) (mm_bytes 140) (mm_mL 140) (mm_rt 140) ∈ lw_tbl := mm_t6 _ (List.mem_of_getElem? (i := 72) rfl)
set_option maxRecDepth 10000 in
theorem mm_cw141 : Cond.code (mm_y 141) (mm_bytes 141) (mm_mL 141) (mm_rt 141) ∈ lw_tbl := mm_t6 _ (List.mem_of_getElem? (i := 76) rfl)
set_option maxRecDepth 10000 in
theorem mm_cw142 : Cond.code (mm_y 142) (mm_bytes 142) (mm_mL 142) (mm_rt 142) ∈ lw_tbl := mm_t6 _ (List.mem_of_getElem? (i := 80) rfl)
set_option maxRecDepth 10000 in
theorem mm_cw143 : Cond.code (mm_y 143) (mm_bytes 143) (mm_mL 143) (mm_rt 143) ∈ lw_tbl := mm_t6 _ (List.mem_of_getElem? (i := 84) rfl)
set_option maxRecDepth 10000 in
theorem mm_cw144 : Cond.code (mm_y 144) (mm_bytes 144) (mm_mL 144) (mm_rt 144) ∈ lw_tbl := mm_t6 _ (List.mem_of_getElem? (i := 88) rfl)
set_option maxRecDepth 10000 in
theorem mm_cw145 : Cond.code (mm_y 145) (mm_bytes 145) (mm_mL 145) (mm_rt 145) ∈ lw_tbl := mm_t6 _ (List.mem_of_getElem? (i := 92) rfl)
set_option maxRecDepth 10000 in
theorem mm_cw146 : Cond.code (mm_y 146) (mm_bytes 146) (mm_mL 146) (mm_rt 146) ∈ lw_tbl := mm_t6 _ (List.mem_of_getElem? (i := 96) rfl)
set_option maxRecDepth 10000 in
theorem mm_cw147 : Cond.code (mm_y 147) (mm_bytes 147) (mm_mL 147) (mm_rt 147) ∈ lw_tbl := mm_t6 _ (List.mem_of_getElem? (i := 100) rfl)
set_option maxRecDepth 10000 in
theorem mm_cw148 : Cond.code (mm_y 148) (mm_bytes 148) (mm_mL 148) (mm_rt 148) ∈ lw_tbl := mm_t6 _ (List.mem_of_getElem? (i := 104) rfl)
set_option maxRecDepth 10000 in
theorem mm_cw149 : Cond.code (mm_y 149) (mm_bytes 149) (mm_mL 149) (mm_rt 149) ∈ lw_tbl := mm_t6 _ (List.mem_of_getElem? (i := 108) rfl)
set_option maxRecDepth 10000 in
theorem mm_cw150 : Cond.code (mm_y 150) (mm_bytes 150) (mm_mL 150) (mm_rt 150) ∈ lw_tbl := mm_t6 _ (List.mem_of_getElem? (i := 112) rfl)
set_option maxRecDepth 10000 in
theorem mm_cw151 : Cond.code (mm_y 151) (mm_bytes 151) (mm_mL 151) (mm_rt 151) ∈ lw_tbl := mm_t6 _ (List.mem_of_getElem? (i := 116) rfl)
set_option maxRecDepth 10000 in
theorem mm_cw152 : Cond.code (mm_y 152) (mm_bytes 152) (mm_mL 152) (mm_rt 152) ∈ lw_tbl := mm_t6 _ (List.mem_of_getElem? (i := 120) rfl)
set_option maxRecDepth 10000 in
theorem mm_cw153 : Cond.code (mm_y 153) (mm_bytes 153) (mm_mL 153) (mm_rt 153) ∈ lw_tbl := mm_t6 _ (List.mem_of_getElem? (i := 124) rfl)
set_option maxRecDepth 10000 in
theorem mm_cw154 : Cond.code (mm_y 154) (mm_bytes 154) (mm_mL 154) (mm_rt 154) ∈ lw_tbl := mm_t6 _ (List.mem_of_getElem? (i := 128) rfl)
set_option maxRecDepth 10000 in
theorem mm_cw155 : Cond.code (mm_y 155) (mm_bytes 155) (mm_mL 155) (mm_rt 155) ∈ lw_tbl := mm_t6 _ (List.mem_of_getElem? (i := 131) rfl)
set_option maxRecDepth 10000 in
theorem mm_cw156 : Cond.code (mm_y 156) (mm_bytes 156) (mm_mL 156) (mm_rt 156) ∈ lw_tbl := mm_t6 _ (List.mem_of_getElem? (i := 135) rfl)
set_option maxRecDepth 10000 in
theorem mm_cw157 : Cond.code (mm_y 157) (mm_bytes 157) (mm_mL 157) (mm_rt 157) ∈ lw_tbl := mm_t6 _ (List.mem_of_getElem? (i := 139) rfl)
set_option maxRecDepth 10000 in
theorem mm_cw158 : Cond.code (mm_y 158) (mm_bytes 158) (mm_mL 158) (mm_rt 158) ∈ lw_tbl := mm_t6 _ (List.mem_of_getElem? (i := 143) rfl)
set_option maxRecDepth 10000 in
theorem mm_cw159 : Cond.code (mm_y 159) (mm_bytes 159) (mm_mL 159) (mm_rt 159) ∈ lw_tbl := mm_t6 _ (List.mem_of_getElem? (i := 147) rfl)
set_option maxRecDepth 10000 in
theorem mm_cw160 : Cond.code (mm_y 160) (mm_bytes 160) (mm_mL 160) (mm_rt 160) ∈ lw_tbl := mm_t6 _ (List.mem_of_getElem? (i := 151) rfl)
set_option maxRecDepth 10000 in
theorem mm_cw161 : Cond.code (mm_y 161) (mm_bytes 161) (mm_mL 161) (mm_rt 161) ∈ lw_tbl := mm_t6 _ (List.mem_of_getElem? (i := 155) rfl)
set_option maxRecDepth 10000 in
theorem mm_cw162 : Cond.code (mm_y 162) (mm_bytes 162) (mm_mL 162) (mm_rt 162) ∈ lw_tbl := mm_t6 _ (List.mem_of_getElem? (i := 159) rfl)
set_option maxRecDepth 10000 in
theorem mm_cw163 : Cond.code (mm_y 163) (mm_bytes 163) (mm_mL 163) (mm_rt 163) ∈ lw_tbl := mm_t6 _ (List.mem_of_getElem? (i := 163) rfl)
set_option maxRecDepth 10000 in
theorem mm_cw164 : Cond.code (mm_y 164) (mm_bytes 164) (mm_mL 164) (mm_rt 164) ∈ lw_tbl := mm_t6 _ (List.mem_of_getElem? (i := 167) rfl)
set_option maxRecDepth 10000 in
theorem mm_cw165 : Cond.code (mm_y 165) (mm_bytes 165) (mm_mL 165) (mm_rt 165) ∈ lw_tbl := mm_t6 _ (List.mem_of_getElem? (i := 171) rfl)
set_option maxRecDepth 10000 in
theorem mm_cw166 : Cond.code (mm_y 166) (mm_bytes 166) (mm_mL 166) (mm_rt 166) ∈ lw_tbl := mm_t6 _ (List.mem_of_getElem? (i := 175) rfl)
set_option maxRecDepth 10000 in
theorem mm_cw167 : Cond.code (mm_y 167) (mm_bytes 167) (mm_mL 167) (mm_rt 167) ∈ lw_tbl := mm_t6 _ (List.mem_of_getElem? (i := 179) rfl)
set_option maxRecDepth 10000 in
theorem mm_cw168 : Cond.code (mm_y 168) (mm_bytes 168) (mm_mL 168) (mm_rt 168) ∈ lw_tbl := mm_t6 _ (List.mem_of_getElem? (i := 183) rfl)
set_option maxRecDepth 10000 in
theorem mm_cw169 : Cond.code (mm_y 169) (mm_bytes 169) (mm_mL 169) (mm_rt 169) ∈ lw_tbl := mm_t6 _ (List.mem_of_getElem? (i := 187) rfl)
set_option maxRecDepth 10000 in
theorem mm_cw170 : Cond.code (mm_y 170) (mm_bytes 170) (mm_mL 170) (mm_rt 170) ∈ lw_tbl := mm_t6 _ (List.mem_of_getElem? (i := 191) rfl)
set_option maxRecDepth 10000 in
theorem mm_cw171 : Cond.code (mm_y 171) (mm_bytes 171) (mm_mL 171) (mm_rt 171) ∈ lw_tbl := mm_t6 _ (List.mem_of_getElem? (i := 195) rfl)
set_option maxRecDepth 10000 in
theorem mm_cw172 : Cond.code (mm_y 172) (mm_bytes 172) (mm_mL 172) (mm_rt 172) ∈ lw_tbl := mm_t6 _ (List.mem_of_getElem? (i := 199) rfl)
set_option maxRecDepth 10000 in
theorem mm_cw173 : Cond.code (mm_y 173) (mm_bytes 173) (mm_mL 173) (mm_rt 173) ∈ lw_tbl := mm_t6 _ (List.mem_of_getElem? (i := 203) rfl)
set_option maxRecDepth 10000 in
theorem mm_cw174 : Cond.code (mm_y 174) (mm_bytes 174) (mm_mL 174) (mm_rt 174) ∈ lw_tbl := mm_t6 _ (List.mem_of_getElem? (i := 207) rfl)
set_option maxRecDepth 10000 in
theorem mm_cw175 : Cond.code (mm_y 175) (mm_bytes 175) (mm_mL 175) (mm_rt 175) ∈ lw_tbl := mm_t6 _ (List.mem_of_getElem? (i := 211) rfl)
set_option maxRecDepth 10000 in
theorem mm_cw176 : Cond.code (mm_y 176) (mm_bytes 176) (mm_mL 176) (mm_rt 176) ∈ lw_tbl := mm_t6 _ (List.mem_of_getElem? (i := 215) rfl)
set_option maxRecDepth 10000 in
theorem mm_cw177 : Cond.code (mm_y 177) (mm_bytes 177) (mm_mL 177) (mm_rt 177) ∈ lw_tbl := mm_t6 _ (List.mem_of_getElem? (i := 219) rfl)
set_option maxRecDepth 10000 in
theorem mm_cw178 : Cond.code (mm_y 178) (mm_bytes 178) (mm_mL 178) (mm_rt 178) ∈ lw_tbl := mm_t6 _ (List.mem_of_getElem? (i := 223) rfl)
set_option maxRecDepth 10000 in
theorem mm_cw179 : Cond.code (mm_y 179) (mm_bytes 179) (mm_mL 179) (mm_rt 179) ∈ lw_tbl := mm_t6 _ (List.mem_of_getElem? (i := 227) rfl)
set_option maxRecDepth 10000 in
theorem mm_cw180 : Cond.code (mm_y 180) (mm_bytes 180) (mm_mL 180) (mm_rt 180) ∈ lw_tbl := mm_t6 _ (List.mem_of_getElem? (i := 231) rfl)
set_option maxRecDepth 10000 in
theorem mm_cw181 : Cond.code (mm_y 181) (mm_bytes 181) (mm_mL 181) (mm_rt 181) ∈ lw_tbl := mm_t6 _ (List.mem_of_getElem? (i := 235) rfl)
set_option maxRecDepth 10000 in
theorem mm_cw182 : Cond.code (mm_y 182) (mm_bytes 182) (mm_mL 182) (mm_rt 182) ∈ lw_tbl := mm_t6 _ (List.mem_of_getElem? (i := 239) rfl)
set_option maxRecDepth 10000 in
theorem mm_cw183 : Cond.code (mm_y 183) (mm_bytes 183) (mm_mL 183) (mm_rt 183) ∈ lw_tbl := mm_t7 _ (List.mem_of_getElem? (i := 3) rfl)
set_option maxRecDepth 10000 in
theorem mm_cw184 : Cond.code (mm_y 184) (mm_bytes 184) (mm_mL 184) (mm_rt 184) ∈ lw_tbl := mm_t7 _ (List.mem_of_getElem? (i := 7) rfl)
set_option maxRecDepth 10000 in
theorem mm_cw185 : Cond.code (mm_y 185) (mm_bytes 185) (mm_mL 185) (mm_rt 185) ∈ lw_tbl := mm_t7 _ (List.mem_of_getElem? (i := 11) rfl)
set_option maxRecDepth 10000 in
theorem mm_cw186 : Cond.code (mm_y 186) (mm_bytes 186) (mm_mL 186) (mm_rt 186) ∈ lw_tbl := mm_t7 _ (List.mem_of_getElem? (i := 15) rfl)
set_option maxRecDepth 10000 in
theorem mm_cw187 : Cond.code (mm_y 187) (mm_bytes 187) (mm_mL 187) (mm_rt 187) ∈ lw_tbl := mm_t7 _ (List.mem_of_getElem? (i := 19) rfl)
set_option maxRecDepth 10000 in
theorem mm_cw188 : Cond.code (mm_y 188) (mm_bytes 188) (mm_mL 188) (mm_rt 188) ∈ lw_tbl := mm_t7 _ (List.mem_of_getElem? (i := 23) rfl)
set_option maxRecDepth 10000 in
theorem mm_cw189 : Cond.code (mm_y 189) (mm_bytes 189) (mm_mL 189) (mm_rt 189) ∈ lw_tbl := mm_t7 _ (List.mem_of_getElem? (i := 27) rfl)
set_option maxRecDepth 10000 in
theorem mm_cw190 : Cond.code (mm_y 190) (mm_bytes 190) (mm_mL 190) (mm_rt 190) ∈ lw_tbl := mm_t7 _ (List.mem_of_getElem? (i := 31) rfl)
set_option maxRecDepth 10000 in
theorem mm_cw191 : Cond.code (mm_y 191) (mm_bytes 191) (mm_mL 191) (mm_rt 191) ∈ lw_tbl := mm_t7 _ (List.mem_of_getElem? (i := 35) rfl)
set_option maxRecDepth 10000 in
theorem mm_cw192 : Cond.code (mm_y 192) (mm_bytes 192) (mm_mL 192) (mm_rt 192) ∈ lw_tbl := mm_t7 _ (List.mem_of_getElem? (i := 39) rfl)
set_option maxRecDepth 10000 in
theorem mm_cw193 : Cond.code (mm_y 193) (mm_bytes 193) (mm_mL 193) (mm_rt 193) ∈ lw_tbl := mm_t7 _ (List.mem_of_getElem? (i := 43) rfl)
set_option maxRecDepth 10000 in
theorem mm_cw194 : Cond.code (mm_y 194) (mm_bytes 194) (mm_mL 194) (mm_rt 194) ∈ lw_tbl := mm_t7 _ (List.mem_of_getElem? (i := 47) rfl)
set_option maxRecDepth 10000 in
theorem mm_cw195 : Cond.code (mm_y 195) (mm_bytes 195) (mm_mL 195) (mm_rt 195) ∈ lw_tbl := mm_t7 _ (List.mem_of_getElem? (i := 51) rfl)
set_option maxRecDepth 10000 in
theorem mm_cw196 : Cond.code (mm_y 196) (mm_bytes 196) (mm_mL 196) (mm_rt 196) ∈ lw_tbl := mm_t7 _ (List.mem_of_getElem? (i := 55) rfl)
set_option maxRecDepth 10000 in
theorem mm_cw197 : Cond.code (mm_y 197) (mm_bytes 197) (mm_mL 197) (mm_rt 197) ∈ lw_tbl := mm_t7 _ (List.mem_of_getElem? (i := 59) rfl)
set_option maxRecDepth 10000 in
theorem mm_cw198 : Cond.code (mm_y 198) (mm_bytes 198) (mm_mL 198) (mm_rt 198) ∈ lw_tbl := mm_t7 _ (List.mem_of_getElem? (i := 63) rfl)
set_option maxRecDepth 10000 in
theorem mm_cw199 : Cond.code (mm_y 199) (mm_bytes 199) (mm_mL 199) (mm_rt 199) ∈ lw_tbl := mm_t7 _ (List.mem_of_getElem? (i := 67) rfl)
set_option maxRecDepth 10000 in
theorem mm_cw200 : Cond.code (mm_y 200) (mm_bytes 200) (mm_mL 200) (mm_rt 200) ∈ lw_tbl := mm_t7 _ (List.mem_of_getElem? (i := 71) rfl)
theorem mm_cws : ∀ M, 0 < M → M < 201 → (mm_hh M = [] ∧ Cond.code (mm_y M) (mm_bytes M) (mm_mL M) (mm_rt M) ∈ lw_tbl) ∨ Cond.codeWith (mm_y M) (mm_bytes M) (mm_mL M) (mm_rt M) (mm_hh M) ∈ lw_tbl
  | 0, h, _ => absurd h (by omega)
  | 1, _, _ => Or.inl ⟨rfl, mm_cw1⟩
  | 2, _, _ => Or.inl ⟨rfl, mm_cw2⟩
  | 3, _, _ => Or.inl ⟨rfl, mm_cw3⟩
  | 4, _, _ => Or.inl ⟨rfl, mm_cw4⟩
  | 5, _, _ => Or.inl ⟨rfl, mm_cw5⟩
  | 6, _, _ => Or.inl ⟨rfl, mm_cw6⟩
  | 7, _, _ => Or.inl ⟨rfl, mm_cw7⟩
  | 8, _, _ => Or.inl ⟨rfl, mm_cw8⟩
  | 9, _, _ => Or.inl ⟨rfl, mm_cw9⟩
  | 10, _, _ => Or.inl ⟨rfl, mm_cw10⟩
  | 11, _, _ => Or.inl ⟨rfl, mm_cw11⟩
  | 12, _, _ => Or.inl ⟨rfl, mm_cw12⟩
  | 13, _, _ => Or.inl ⟨rfl, mm_cw13⟩
  | 14, _, _ => Or.inl ⟨rfl, mm_cw14⟩
  | 15, _, _ => Or.inr mm_cw15
  | 16, _, _ => Or.inl ⟨rfl, mm_cw16⟩
  | 17, _, _ => Or.inl ⟨rfl, mm_cw17⟩
  | 18, _, _ => Or.inl ⟨rfl, mm_cw18⟩
  | 19, _, _ => Or.inl ⟨rfl, mm_cw19⟩
  | 20, _, _ => Or.inl ⟨rfl, mm_cw20⟩
  | 21, _, _ => Or.inl ⟨rfl, mm_cw21⟩
  | 22, _, _ => Or.inl ⟨rfl, mm_cw22⟩
  | 23, _, _ => Or.inl ⟨rfl, mm_cw23⟩
  | 24, _, _ => Or.inl ⟨rfl, mm_cw24⟩
  | 25, _, _ => Or.inl ⟨rfl, mm_cw25⟩
  | 26, _, _ => Or.inl ⟨rfl, mm_cw26⟩
  | 27, _, _ => Or.inl ⟨rfl, mm_cw27⟩
  | 28, _, _ => Or.inl ⟨rfl, mm_cw28⟩
  | 29, _, _ => Or.inl ⟨rfl, mm_cw29⟩
  | 30, _, _ => Or.inl ⟨rfl, mm_cw30⟩
  | 31, _, _ => Or.inl ⟨rfl, mm_cw31⟩
  | 32, _, _ => Or.inl ⟨rfl, mm_cw32⟩
  | 33, _, _ => Or.inl ⟨rfl, mm_cw33⟩
  | 34, _, _ => Or.inl ⟨rfl, mm_cw34⟩
  | 35, _, _ => Or.inl ⟨rfl, mm_cw35⟩
  | 36, _, _ => Or.inl ⟨rfl, mm_cw36⟩
  | 37, _, _ => Or.inl ⟨rfl, mm_cw37⟩
  | 38, _, _ => Or.inl ⟨rfl, mm_cw38⟩
  | 39, _, _ => Or.inl ⟨rfl, mm_cw39⟩
  | 40, _, _ => Or.inl ⟨rfl, mm_cw40⟩
  | 41, _, _ => Or.inl ⟨rfl, mm_cw41⟩
  | 42, _, _ => Or.inl ⟨rfl, mm_cw42⟩
  | 43, _, _ => Or.inl ⟨rfl, mm_cw43⟩
  | 44, _, _ => Or.inl ⟨rfl, mm_cw44⟩
  | 45, _, _ => Or.inl ⟨rfl, mm_cw45⟩
  | 46, _, _ => Or.inl ⟨rfl, mm_cw46⟩
  | 47, _, _ => Or.inl ⟨rfl, mm_cw47⟩
  | 48, _, _ => Or.inl ⟨rfl, mm_cw48⟩
  | 49, _, _ => Or.inl ⟨rfl, mm_cw49⟩
  | 50, _, _ => Or.inl ⟨rfl, mm_cw50⟩
  | 51, _, _ => Or.inl ⟨rfl, mm_cw51⟩
  | 52, _, _ => Or.inl ⟨rfl, mm_cw52⟩
  | 53, _, _ => Or.inl ⟨rfl, mm_cw53⟩
  | 54, _, _ => Or.inl ⟨rfl, mm_cw54⟩
  | 55, _, _ => Or.inl ⟨rfl, mm_cw55⟩
  | 56, _, _ => Or.inl ⟨rfl, mm_cw56⟩
  | 57, _, _ => Or.inl ⟨rfl, mm_cw57⟩
  | 58, _, _ => Or.inl ⟨rfl, mm_cw58⟩
  | 59, _, _ => Or.inl ⟨rfl, mm_cw59⟩
  | 60, _, _ => Or.inl ⟨rfl, mm_cw60⟩
  | 61, _, _ => Or.inl ⟨rfl, mm_cw61⟩
  | 62, _, _ => Or.inl ⟨rfl, mm_cw62⟩
  | 63, _, _ => Or.inl ⟨rfl, mm_cw63⟩
  | 64, _, _ => Or.inl ⟨rfl, mm_cw64⟩
  | 65, _, _ => Or.inl ⟨rfl, mm_cw65⟩
  | 66, _, _ => Or.inl ⟨rfl, mm_cw66⟩
  | 67, _, _ => Or.inl ⟨rfl, mm_cw67⟩
  | 68, _, _ => Or.inl ⟨rfl, mm_cw68⟩
  | 69, _, _ => Or.inl ⟨rfl, mm_cw69⟩
  | 70, _, _ => Or.inl ⟨rfl, mm_cw70⟩
  | 71, _, _ => Or.inl ⟨rfl, mm_cw71⟩
  | 72, _, _ => Or.inl ⟨rfl, mm_cw72⟩
  | 73, _, _ => Or.inl ⟨rfl, mm_cw73⟩
  | 74, _, _ => Or.inl ⟨rfl, mm_cw74⟩
  | 75, _, _ => Or.inl ⟨rfl, mm_cw75⟩
  | 76, _, _ => Or.inl ⟨rfl, mm_cw76⟩
  | 77, _, _ => Or.inl ⟨rfl, mm_cw77⟩
  | 78, _, _ => Or.inl ⟨rfl, mm_cw78⟩
  | 79, _, _ => Or.inl ⟨rfl, mm_cw79⟩
  | 80, _, _ => Or.inl ⟨rfl, mm_cw80⟩
  | 81, _, _ => Or.inl ⟨rfl, mm_cw81⟩
  | 82, _, _ => Or.inl ⟨rfl, mm_cw82⟩
  | 83, _, _ => Or.inl ⟨rfl, mm_cw83⟩
  | 84, _, _ => Or.inl ⟨rfl, mm_cw84⟩
  | 85, _, _ => Or.inl ⟨rfl, mm_cw85⟩
  | 86, _, _ => Or.inl ⟨rfl, mm_cw86⟩
  | 87, _, _ => Or.inl ⟨rfl, mm_cw87⟩
  | 88, _, _ => Or.inl ⟨rfl, mm_cw88⟩
  | 89, _, _ => Or.inl ⟨rfl, mm_cw89⟩
  | 90, _, _ => Or.inl ⟨rfl, mm_cw90⟩
  | 91, _, _ => Or.inl ⟨rfl, mm_cw91⟩
  | 92, _, _ => Or.inr mm_cw92
  | 93, _, _ => Or.inl ⟨rfl, mm_cw93⟩
  | 94, _, _ => Or.inr mm_cw94
  | 95, _, _ => Or.inl ⟨rfl, mm_cw95⟩
  | 96, _, _ => Or.inl ⟨rfl, mm_cw96⟩
  | 97, _, _ => Or.inl ⟨rfl, mm_cw97⟩
  | 98, _, _ => Or.inl ⟨rfl, mm_cw98⟩
  | 99, _, _ => Or.inl ⟨rfl, mm_cw99⟩
  | 100, _, _ => Or.inr mm_cw100
  | 101, _, _ => Or.inl ⟨rfl, mm_cw101⟩
  | 102, _, _ => Or.inr mm_cw102
  | 103, _, _ => Or.inl ⟨rfl, mm_cw103⟩
  | 104, _, _ => Or.inl ⟨rfl, mm_cw104⟩
  | 105, _, _ => Or.inr mm_cw105
  | 106, _, _ => Or.inl ⟨rfl, mm_cw106⟩
  | 107, _, _ => Or.inl ⟨rfl, mm_cw107⟩
  | 108, _, _ => Or.inl ⟨rfl, mm_cw108⟩
  | 109, _, _ => Or.inl ⟨rfl, mm_cw109⟩
  | 110, _, _ => Or.inl ⟨rfl, mm_cw110⟩
  | 111, _, _ => Or.inl ⟨rfl, mm_cw111⟩
  | 112, _, _ => Or.inl ⟨rfl, mm_cw112⟩
  | 113, _, _ => Or.inl ⟨rfl, mm_cw113⟩
  | 114, _, _ => Or.inl ⟨rfl, mm_cw114⟩
  | 115, _, _ => Or.inr mm_cw115
  | 116, _, _ => Or.inl ⟨rfl, mm_cw116⟩
  | 117, _, _ => Or.inr mm_cw117
  | 118, _, _ => Or.inl ⟨rfl, mm_cw118⟩
  | 119, _, _ => Or.inl ⟨rfl, mm_cw119⟩
  | 120, _, _ => Or.inr mm_cw120
  | 121, _, _ => Or.inl ⟨rfl, mm_cw121⟩
  | 122, _, _ => Or.inr mm_cw122
  | 123, _, _ => Or.inl ⟨rfl, mm_cw123⟩
  | 124, _, _ => Or.inr mm_cw124
  | 125, _, _ => Or.inl ⟨rfl, mm_cw125⟩
  | 126, _, _ => Or.inl ⟨rfl, mm_cw126⟩
  | 127, _, _ => Or.inr mm_cw127
  | 128, _, _ => Or.inl ⟨rfl, mm_cw128⟩
  | 129, _, _ => Or.inr mm_cw129
  | 130, _, _ => Or.inl ⟨rfl, mm_cw130⟩
  | 131, _, _ => Or.inr mm_cw131
  | 132, _, _ => Or.inl ⟨rfl, mm_cw132⟩
  | 133, _, _ => Or.inl ⟨rfl, mm_cw133⟩
  | 134, _, _ => Or.inl ⟨rfl, mm_cw134⟩
  | 135, _, _ => Or.inl ⟨rfl, mm_cw135⟩
  | 136, _, _ => Or.inl ⟨rfl, mm_cw136⟩
  | 137, _, _ => Or.inl ⟨rfl, mm_cw137⟩
  | 138, _, _ => Or.inl ⟨rfl, mm_cw138⟩
  | 139, _, _ => Or.inl ⟨rfl, mm_cw139⟩
  | 140, _, _ => Or.inl ⟨rfl, mm_cw140⟩
  | 141, _, _ => Or.inl ⟨rfl, mm_cw141⟩
  | 142, _, _ => Or.inl ⟨rfl, mm_cw142⟩
  | 143, _, _ => Or.inl ⟨rfl, mm_cw143⟩
  | 144, _, _ => Or.inl ⟨rfl, mm_cw144⟩
  | 145, _, _ => Or.inl ⟨rfl, mm_cw145⟩
  | 146, _, _ => Or.inl ⟨rfl, mm_cw146⟩
  | 147, _, _ => Or.inl ⟨rfl, mm_cw147⟩
  | 148, _, _ => Or.inl ⟨rfl, mm_cw148⟩
  | 149, _, _ => Or.inl ⟨rfl, mm_cw149⟩
  | 150, _, _ => Or.inl ⟨rfl, mm_cw150⟩
  | 151, _, _ => Or.inl ⟨rfl, mm_cw151⟩
  | 152, _, _ => Or.inl ⟨rfl, mm_cw152⟩
  | 153, _, _ => Or.inl ⟨rfl, mm_cw153⟩
  | 154, _, _ => Or.inl ⟨rfl, mm_cw154⟩
  | 155, _, _ => Or.inl ⟨rfl, mm_cw155⟩
  | 156, _, _ => Or.inl ⟨rfl, mm_cw156⟩
  | 157, _, _ => Or.inl ⟨rfl, mm_cw157⟩
  | 158, _, _ => Or.inl ⟨rfl, mm_cw158⟩
  | 159, _, _ => Or.inl ⟨rfl, mm_cw159⟩
  | 160, _, _ => Or.inl ⟨rfl, mm_cw160⟩
  | 161, _, _ => Or.inl ⟨rfl, mm_cw161⟩
  | 162, _, _ => Or.inl ⟨rfl, mm_cw162⟩
  | 163, _, _ => Or.inl ⟨rfl, mm_cw163⟩
  | 164, _, _ => Or.inl ⟨rfl, mm_cw164⟩
  | 165, _, _ => Or.inl ⟨rfl, mm_cw165⟩
  | 166, _, _ => Or.inl ⟨rfl, mm_cw166⟩
  | 167, _, _ => Or.inl ⟨rfl, mm_cw167⟩
  | 168, _, _ => Or.inl ⟨rfl, mm_cw168⟩
  | 169, _, _ => Or.inl ⟨rfl, mm_cw169⟩
  | 170, _, _ => Or.inl ⟨rfl, mm_cw170⟩
  | 171, _, _ => Or.inl ⟨rfl, mm_cw171⟩
  | 172, _, _ => Or.inl ⟨rfl, mm_cw172⟩
  | 173, _, _ => Or.inl ⟨rfl, mm_cw173⟩
  | 174, _, _ => Or.inl ⟨rfl, mm_cw174⟩
  | 175, _, _ => Or.inl ⟨rfl, mm_cw175⟩
  | 176, _, _ => Or.inl ⟨rfl, mm_cw176⟩
  | 177, _, _ => Or.inl ⟨rfl, mm_cw177⟩
  | 178, _, _ => Or.inl ⟨rfl, mm_cw178⟩
  | 179, _, _ => Or.inl ⟨rfl, mm_cw179⟩
  | 180, _, _ => Or.inl ⟨rfl, mm_cw180⟩
  | 181, _, _ => Or.inl ⟨rfl, mm_cw181⟩
  | 182, _, _ => Or.inl ⟨rfl, mm_cw182⟩
  | 183, _, _ => Or.inl ⟨rfl, mm_cw183⟩
  | 184, _, _ => Or.inl ⟨rfl, mm_cw184⟩
  | 185, _, _ => Or.inl ⟨rfl, mm_cw185⟩
  | 186, _, _ => Or.inl ⟨rfl, mm_cw186⟩
  | 187, _, _ => Or.inl ⟨rfl, mm_cw187⟩
  | 188, _, _ => Or.inl ⟨rfl, mm_cw188⟩
  | 189, _, _ => Or.inl ⟨rfl, mm_cw189⟩
  | 190, _, _ => Or.inl ⟨rfl, mm_cw190⟩
  | 191, _, _ => Or.inl ⟨rfl, mm_cw191⟩
  | 192, _, _ => Or.inl ⟨rfl, mm_cw192⟩
  | 193, _, _ => Or.inl ⟨rfl, mm_cw193⟩
  | 194, _, _ => Or.inl ⟨rfl, mm_cw194⟩
  | 195, _, _ => Or.inl ⟨rfl, mm_cw195⟩
  | 196, _, _ => Or.inl ⟨rfl, mm_cw196⟩
  | 197, _, _ => Or.inl ⟨rfl, mm_cw197⟩
  | 198, _, _ => Or.inl ⟨rfl, mm_cw198⟩
  | 199, _, _ => Or.inl ⟨rfl, mm_cw199⟩
  | 200, _, _ => Or.inl ⟨rfl, mm_cw200⟩
  | n + 201, _, h => absurd h (by omega)
theorem mm_lib_ok : Cond.static Lib.Math.max.name ∈ lw_tbl ∧ Cond.static Lib.Math.min.name ∈ lw_tbl ∧ Cond.static Lib.Math.abs.name ∈ lw_tbl ∧ Cond.initialized "java/lang/Math" ∈ lw_tbl ∧ Cond.code Lib.Math.max.name Lib.Math.max.code 2 (some .int) ∈ lw_tbl ∧ Cond.code Lib.Math.min.name Lib.Math.min.code 2 (some .int) ∈ lw_tbl ∧ Cond.code Lib.Math.abs.name Lib.Math.abs.code 1 (some .int) ∈ lw_tbl ∧
    Cond.native arraycopyName ∈ lw_tbl ∧ Cond.static arraycopyName ∈ lw_tbl ∧ Cond.initialized "java/lang/System" ∈ lw_tbl ∧ Cond.instanceMethod Lib.objectInit ∈ lw_tbl ∧ Cond.code Lib.objectInit ⟨#[0xb1]⟩ 1 none ∈ lw_tbl := by decide +kernel

