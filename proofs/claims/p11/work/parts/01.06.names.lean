set_option maxRecDepth 100000 in
set_option maxHeartbeats 4000000 in
theorem iwsL_law0_r49 : ∀ w ∈ wsL_law0_r49, w ∈ lw_tbl := List.forall_mem_cons.mpr ⟨lt_8 (List.mem_of_getElem? (i := 93) rfl), List.forall_mem_cons.mpr ⟨lt_8 (List.mem_of_getElem? (i := 94) rfl), List.forall_mem_cons.mpr ⟨lt_8 (List.mem_of_getElem? (i := 95) rfl), List.forall_mem_cons.mpr ⟨lt_1 (List.mem_of_getElem? (i := 20) rfl), List.forall_mem_cons.mpr ⟨lt_8 (List.mem_of_getElem? (i := 96) rfl), List.forall_mem_cons.mpr ⟨lt_8 (List.mem_of_getElem? (i := 100) rfl), List.forall_mem_cons.mpr ⟨lt_8 (List.mem_of_getElem? (i := 102) rfl), List.forall_mem_cons.mpr ⟨lt_8 (List.mem_of_getElem? (i := 101) rfl), List.forall_mem_cons.mpr ⟨lt_1 (List.mem_of_getElem? (i := 20) rfl), List.forall_mem_cons.mpr ⟨lt_8 (List.mem_of_getElem? (i := 103) rfl), List.forall_mem_cons.mpr ⟨lt_8 (List.mem_of_getElem? (i := 97) rfl), List.forall_mem_cons.mpr ⟨lt_8 (List.mem_of_getElem? (i := 98) rfl), List.forall_mem_cons.mpr ⟨lt_8 (List.mem_of_getElem? (i := 99) rfl), List.forall_mem_cons.mpr ⟨lt_4 (List.mem_of_getElem? (i := 197) rfl), List.forall_mem_cons.mpr ⟨lt_4 (List.mem_of_getElem? (i := 198) rfl), List.forall_mem_cons.mpr ⟨lt_4 (List.mem_of_getElem? (i := 199) rfl), List.forall_mem_cons.mpr ⟨lt_4 (List.mem_of_getElem? (i := 200) rfl), List.forall_mem_cons.mpr ⟨lt_4 (List.mem_of_getElem? (i := 201) rfl), List.forall_mem_cons.mpr ⟨lt_4 (List.mem_of_getElem? (i := 202) rfl), List.forall_mem_cons.mpr ⟨lt_4 (List.mem_of_getElem? (i := 203) rfl), List.forall_mem_cons.mpr ⟨lt_4 (List.mem_of_getElem? (i := 204) rfl), List.forall_mem_cons.mpr ⟨lt_4 (List.mem_of_getElem? (i := 205) rfl), List.forall_mem_cons.mpr ⟨lt_8 (List.mem_of_getElem? (i := 104) rfl), List.forall_mem_cons.mpr ⟨lt_8 (List.mem_of_getElem? (i := 105) rfl), (fun _ h => absurd h List.not_mem_nil)⟩⟩⟩⟩⟩⟩⟩⟩⟩⟩⟩⟩⟩⟩⟩⟩⟩⟩⟩⟩⟩⟩⟩⟩
set_option maxRecDepth 100000 in
set_option maxHeartbeats 4000000 in
theorem iwsL_law0_r50 : ∀ w ∈ wsL_law0_r50, w ∈ lw_tbl := List.forall_mem_cons.mpr ⟨lt_8 (List.mem_of_getElem? (i := 106) rfl), List.forall_mem_cons.mpr ⟨lt_8 (List.mem_of_getElem? (i := 107) rfl), List.forall_mem_cons.mpr ⟨lt_8 (List.mem_of_getElem? (i := 108) rfl), List.forall_mem_cons.mpr ⟨lt_8 (List.mem_of_getElem? (i := 110) rfl), List.forall_mem_cons.mpr ⟨lp_6 (n := 69) (List.mem_of_getElem? (i := 9) rfl), List.forall_mem_cons.mpr ⟨lt_8 (List.mem_of_getElem? (i := 111) rfl), List.forall_mem_cons.mpr ⟨lt_4 (List.mem_of_getElem? (i := 206) rfl), List.forall_mem_cons.mpr ⟨lt_4 (List.mem_of_getElem? (i := 207) rfl), List.forall_mem_cons.mpr ⟨lt_4 (List.mem_of_getElem? (i := 208) rfl), List.forall_mem_cons.mpr ⟨lt_4 (List.mem_of_getElem? (i := 209) rfl), List.forall_mem_cons.mpr ⟨lt_8 (List.mem_of_getElem? (i := 112) rfl), List.forall_mem_cons.mpr ⟨lt_8 (List.mem_of_getElem? (i := 113) rfl), List.forall_mem_cons.mpr ⟨lt_8 (List.mem_of_getElem? (i := 114) rfl), List.forall_mem_cons.mpr ⟨lt_8 (List.mem_of_getElem? (i := 115) rfl), List.forall_mem_cons.mpr ⟨lt_8 (List.mem_of_getElem? (i := 116) rfl), List.forall_mem_cons.mpr ⟨lt_4 (List.mem_of_getElem? (i := 210) rfl), List.forall_mem_cons.mpr ⟨lt_4 (List.mem_of_getElem? (i := 211) rfl), List.forall_mem_cons.mpr ⟨lt_4 (List.mem_of_getElem? (i := 212) rfl), List.forall_mem_cons.mpr ⟨lt_4 (List.mem_of_getElem? (i := 213) rfl), List.forall_mem_cons.mpr ⟨lt_1 (List.mem_of_getElem? (i := 155) rfl), List.forall_mem_cons.mpr ⟨lt_1 (List.mem_of_getElem? (i := 153) rfl), List.forall_mem_cons.mpr ⟨lt_4 (List.mem_of_getElem? (i := 214) rfl), List.forall_mem_cons.mpr ⟨lt_4 (List.mem_of_getElem? (i := 215) rfl), List.forall_mem_cons.mpr ⟨lt_4 (List.mem_of_getElem? (i := 216) rfl), (fun _ h => absurd h List.not_mem_nil)⟩⟩⟩⟩⟩⟩⟩⟩⟩⟩⟩⟩⟩⟩⟩⟩⟩⟩⟩⟩⟩⟩⟩⟩
set_option maxRecDepth 100000 in
set_option maxHeartbeats 4000000 in
theorem iwsL_law0_r51 : ∀ w ∈ wsL_law0_r51, w ∈ lw_tbl := List.forall_mem_cons.mpr ⟨lt_4 (List.mem_of_getElem? (i := 217) rfl), List.forall_mem_cons.mpr ⟨lt_4 (List.mem_of_getElem? (i := 218) rfl), List.forall_mem_cons.mpr ⟨lt_4 (List.mem_of_getElem? (i := 219) rfl), List.forall_mem_cons.mpr ⟨lt_4 (List.mem_of_getElem? (i := 220) rfl), List.forall_mem_cons.mpr ⟨lt_4 (List.mem_of_getElem? (i := 221) rfl), List.forall_mem_cons.mpr ⟨lt_4 (List.mem_of_getElem? (i := 222) rfl), List.forall_mem_cons.mpr ⟨lt_1 (List.mem_of_getElem? (i := 125) rfl), List.forall_mem_cons.mpr ⟨lt_4 (List.mem_of_getElem? (i := 223) rfl), List.forall_mem_cons.mpr ⟨lt_4 (List.mem_of_getElem? (i := 224) rfl), List.forall_mem_cons.mpr ⟨lt_4 (List.mem_of_getElem? (i := 225) rfl), List.forall_mem_cons.mpr ⟨lt_4 (List.mem_of_getElem? (i := 226) rfl), List.forall_mem_cons.mpr ⟨lt_4 (List.mem_of_getElem? (i := 227) rfl), List.forall_mem_cons.mpr ⟨lt_4 (List.mem_of_getElem? (i := 228) rfl), List.forall_mem_cons.mpr ⟨lt_4 (List.mem_of_getElem? (i := 229) rfl), List.forall_mem_cons.mpr ⟨lt_4 (List.mem_of_getElem? (i := 230) rfl), List.forall_mem_cons.mpr ⟨lt_4 (List.mem_of_getElem? (i := 231) rfl), List.forall_mem_cons.mpr ⟨lt_4 (List.mem_of_getElem? (i := 232) rfl), List.forall_mem_cons.mpr ⟨lt_4 (List.mem_of_getElem? (i := 233) rfl), List.forall_mem_cons.mpr ⟨lt_8 (List.mem_of_getElem? (i := 117) rfl), List.forall_mem_cons.mpr ⟨lt_8 (List.mem_of_getElem? (i := 118) rfl), List.forall_mem_cons.mpr ⟨lt_8 (List.mem_of_getElem? (i := 119) rfl), List.forall_mem_cons.mpr ⟨lt_8 (List.mem_of_getElem? (i := 120) rfl), List.forall_mem_cons.mpr ⟨lt_6 (List.mem_of_getElem? (i := 4) rfl), List.forall_mem_cons.mpr ⟨lt_6 (List.mem_of_getElem? (i := 3) rfl), (fun _ h => absurd h List.not_mem_nil)⟩⟩⟩⟩⟩⟩⟩⟩⟩⟩⟩⟩⟩⟩⟩⟩⟩⟩⟩⟩⟩⟩⟩⟩
set_option maxRecDepth 100000 in
set_option maxHeartbeats 4000000 in
theorem iwsL_law0_r52 : ∀ w ∈ wsL_law0_r52, w ∈ lw_tbl := List.forall_mem_cons.mpr ⟨lt_8 (List.mem_of_getElem? (i := 121) rfl), List.forall_mem_cons.mpr ⟨lt_8 (List.mem_of_getElem? (i := 123) rfl), List.forall_mem_cons.mpr ⟨lp_6 (n := 69) (List.mem_of_getElem? (i := 10) rfl), List.forall_mem_cons.mpr ⟨lt_8 (List.mem_of_getElem? (i := 124) rfl), List.forall_mem_cons.mpr ⟨lt_6 (List.mem_of_getElem? (i := 7) rfl), List.forall_mem_cons.mpr ⟨lt_8 (List.mem_of_getElem? (i := 125) rfl), List.forall_mem_cons.mpr ⟨lt_6 (List.mem_of_getElem? (i := 5) rfl), List.forall_mem_cons.mpr ⟨lt_6 (List.mem_of_getElem? (i := 6) rfl), List.forall_mem_cons.mpr ⟨lt_8 (List.mem_of_getElem? (i := 126) rfl), List.forall_mem_cons.mpr ⟨lt_8 (List.mem_of_getElem? (i := 128) rfl), List.forall_mem_cons.mpr ⟨lp_6 (n := 69) (List.mem_of_getElem? (i := 11) rfl), List.forall_mem_cons.mpr ⟨lt_8 (List.mem_of_getElem? (i := 129) rfl), List.forall_mem_cons.mpr ⟨lt_8 (List.mem_of_getElem? (i := 130) rfl), List.forall_mem_cons.mpr ⟨lt_8 (List.mem_of_getElem? (i := 132) rfl), List.forall_mem_cons.mpr ⟨lp_6 (n := 69) (List.mem_of_getElem? (i := 12) rfl), List.forall_mem_cons.mpr ⟨lt_8 (List.mem_of_getElem? (i := 133) rfl), List.forall_mem_cons.mpr ⟨lt_4 (List.mem_of_getElem? (i := 234) rfl), List.forall_mem_cons.mpr ⟨lt_4 (List.mem_of_getElem? (i := 235) rfl), List.forall_mem_cons.mpr ⟨lt_4 (List.mem_of_getElem? (i := 236) rfl), List.forall_mem_cons.mpr ⟨lt_4 (List.mem_of_getElem? (i := 237) rfl), List.forall_mem_cons.mpr ⟨lt_4 (List.mem_of_getElem? (i := 238) rfl), List.forall_mem_cons.mpr ⟨lt_4 (List.mem_of_getElem? (i := 239) rfl), List.forall_mem_cons.mpr ⟨lt_8 (List.mem_of_getElem? (i := 134) rfl), List.forall_mem_cons.mpr ⟨lt_8 (List.mem_of_getElem? (i := 135) rfl), (fun _ h => absurd h List.not_mem_nil)⟩⟩⟩⟩⟩⟩⟩⟩⟩⟩⟩⟩⟩⟩⟩⟩⟩⟩⟩⟩⟩⟩⟩⟩
set_option maxRecDepth 100000 in
set_option maxHeartbeats 4000000 in
theorem iwsL_law0_r53 : ∀ w ∈ wsL_law0_r53, w ∈ lw_tbl := List.forall_mem_cons.mpr ⟨lt_8 (List.mem_of_getElem? (i := 136) rfl), List.forall_mem_cons.mpr ⟨lt_8 (List.mem_of_getElem? (i := 137) rfl), List.forall_mem_cons.mpr ⟨lt_8 (List.mem_of_getElem? (i := 138) rfl), List.forall_mem_cons.mpr ⟨lt_5 (List.mem_of_getElem? (i := 0) rfl), List.forall_mem_cons.mpr ⟨lt_5 (List.mem_of_getElem? (i := 1) rfl), List.forall_mem_cons.mpr ⟨lt_5 (List.mem_of_getElem? (i := 2) rfl), List.forall_mem_cons.mpr ⟨lt_5 (List.mem_of_getElem? (i := 3) rfl), List.forall_mem_cons.mpr ⟨lt_5 (List.mem_of_getElem? (i := 4) rfl), List.forall_mem_cons.mpr ⟨lt_8 (List.mem_of_getElem? (i := 139) rfl), List.forall_mem_cons.mpr ⟨lt_8 (List.mem_of_getElem? (i := 140) rfl), List.forall_mem_cons.mpr ⟨lt_8 (List.mem_of_getElem? (i := 141) rfl), List.forall_mem_cons.mpr ⟨lt_8 (List.mem_of_getElem? (i := 142) rfl), List.forall_mem_cons.mpr ⟨lt_5 (List.mem_of_getElem? (i := 5) rfl), List.forall_mem_cons.mpr ⟨lt_5 (List.mem_of_getElem? (i := 6) rfl), List.forall_mem_cons.mpr ⟨lt_5 (List.mem_of_getElem? (i := 7) rfl), List.forall_mem_cons.mpr ⟨lt_5 (List.mem_of_getElem? (i := 8) rfl), List.forall_mem_cons.mpr ⟨lt_2 (List.mem_of_getElem? (i := 112) rfl), List.forall_mem_cons.mpr ⟨lt_2 (List.mem_of_getElem? (i := 115) rfl), List.forall_mem_cons.mpr ⟨lt_2 (List.mem_of_getElem? (i := 118) rfl), List.forall_mem_cons.mpr ⟨lt_5 (List.mem_of_getElem? (i := 9) rfl), List.forall_mem_cons.mpr ⟨lt_5 (List.mem_of_getElem? (i := 10) rfl), List.forall_mem_cons.mpr ⟨lt_5 (List.mem_of_getElem? (i := 11) rfl), List.forall_mem_cons.mpr ⟨lt_5 (List.mem_of_getElem? (i := 12) rfl), List.forall_mem_cons.mpr ⟨lt_8 (List.mem_of_getElem? (i := 143) rfl), (fun _ h => absurd h List.not_mem_nil)⟩⟩⟩⟩⟩⟩⟩⟩⟩⟩⟩⟩⟩⟩⟩⟩⟩⟩⟩⟩⟩⟩⟩⟩
set_option maxRecDepth 100000 in
set_option maxHeartbeats 4000000 in
theorem iwsL_law0_r54 : ∀ w ∈ wsL_law0_r54, w ∈ lw_tbl := List.forall_mem_cons.mpr ⟨lt_8 (List.mem_of_getElem? (i := 144) rfl), List.forall_mem_cons.mpr ⟨lt_8 (List.mem_of_getElem? (i := 145) rfl), List.forall_mem_cons.mpr ⟨lt_8 (List.mem_of_getElem? (i := 146) rfl), List.forall_mem_cons.mpr ⟨lt_5 (List.mem_of_getElem? (i := 13) rfl), List.forall_mem_cons.mpr ⟨lt_5 (List.mem_of_getElem? (i := 14) rfl), List.forall_mem_cons.mpr ⟨lt_5 (List.mem_of_getElem? (i := 15) rfl), List.forall_mem_cons.mpr ⟨lt_5 (List.mem_of_getElem? (i := 16) rfl), List.forall_mem_cons.mpr ⟨lt_5 (List.mem_of_getElem? (i := 17) rfl), List.forall_mem_cons.mpr ⟨lt_5 (List.mem_of_getElem? (i := 19) rfl), List.forall_mem_cons.mpr ⟨lp_2 (n := 15) (List.mem_of_getElem? (i := 5) rfl), List.forall_mem_cons.mpr ⟨lt_5 (List.mem_of_getElem? (i := 20) rfl), List.forall_mem_cons.mpr ⟨lt_5 (List.mem_of_getElem? (i := 21) rfl), List.forall_mem_cons.mpr ⟨lt_5 (List.mem_of_getElem? (i := 22) rfl), List.forall_mem_cons.mpr ⟨lt_5 (List.mem_of_getElem? (i := 23) rfl), List.forall_mem_cons.mpr ⟨lt_5 (List.mem_of_getElem? (i := 24) rfl), List.forall_mem_cons.mpr ⟨lt_5 (List.mem_of_getElem? (i := 25) rfl), List.forall_mem_cons.mpr ⟨lt_5 (List.mem_of_getElem? (i := 26) rfl), List.forall_mem_cons.mpr ⟨lt_8 (List.mem_of_getElem? (i := 147) rfl), List.forall_mem_cons.mpr ⟨lt_8 (List.mem_of_getElem? (i := 148) rfl), List.forall_mem_cons.mpr ⟨lt_8 (List.mem_of_getElem? (i := 149) rfl), List.forall_mem_cons.mpr ⟨lt_8 (List.mem_of_getElem? (i := 150) rfl), List.forall_mem_cons.mpr ⟨lt_8 (List.mem_of_getElem? (i := 151) rfl), List.forall_mem_cons.mpr ⟨lt_8 (List.mem_of_getElem? (i := 153) rfl), List.forall_mem_cons.mpr ⟨lp_6 (n := 69) (List.mem_of_getElem? (i := 13) rfl), (fun _ h => absurd h List.not_mem_nil)⟩⟩⟩⟩⟩⟩⟩⟩⟩⟩⟩⟩⟩⟩⟩⟩⟩⟩⟩⟩⟩⟩⟩⟩
set_option maxRecDepth 100000 in
set_option maxHeartbeats 4000000 in
theorem iwsL_law0_r55 : ∀ w ∈ wsL_law0_r55, w ∈ lw_tbl := List.forall_mem_cons.mpr ⟨lt_8 (List.mem_of_getElem? (i := 154) rfl), List.forall_mem_cons.mpr ⟨lt_5 (List.mem_of_getElem? (i := 27) rfl), List.forall_mem_cons.mpr ⟨lt_5 (List.mem_of_getElem? (i := 28) rfl), List.forall_mem_cons.mpr ⟨lt_5 (List.mem_of_getElem? (i := 29) rfl), List.forall_mem_cons.mpr ⟨lt_5 (List.mem_of_getElem? (i := 30) rfl), List.forall_mem_cons.mpr ⟨lt_2 (List.mem_of_getElem? (i := 121) rfl), List.forall_mem_cons.mpr ⟨lt_2 (List.mem_of_getElem? (i := 123) rfl), List.forall_mem_cons.mpr ⟨lt_5 (List.mem_of_getElem? (i := 31) rfl), List.forall_mem_cons.mpr ⟨lt_5 (List.mem_of_getElem? (i := 33) rfl), List.forall_mem_cons.mpr ⟨lp_2 (n := 15) (List.mem_of_getElem? (i := 6) rfl), List.forall_mem_cons.mpr ⟨lt_5 (List.mem_of_getElem? (i := 34) rfl), List.forall_mem_cons.mpr ⟨lt_8 (List.mem_of_getElem? (i := 155) rfl), List.forall_mem_cons.mpr ⟨lt_8 (List.mem_of_getElem? (i := 156) rfl), List.forall_mem_cons.mpr ⟨lt_8 (List.mem_of_getElem? (i := 157) rfl), List.forall_mem_cons.mpr ⟨lt_8 (List.mem_of_getElem? (i := 158) rfl), List.forall_mem_cons.mpr ⟨lt_5 (List.mem_of_getElem? (i := 35) rfl), List.forall_mem_cons.mpr ⟨lt_5 (List.mem_of_getElem? (i := 36) rfl), List.forall_mem_cons.mpr ⟨lt_5 (List.mem_of_getElem? (i := 37) rfl), List.forall_mem_cons.mpr ⟨lt_5 (List.mem_of_getElem? (i := 38) rfl), List.forall_mem_cons.mpr ⟨lt_2 (List.mem_of_getElem? (i := 109) rfl), List.forall_mem_cons.mpr ⟨lt_8 (List.mem_of_getElem? (i := 159) rfl), List.forall_mem_cons.mpr ⟨lt_8 (List.mem_of_getElem? (i := 160) rfl), List.forall_mem_cons.mpr ⟨lt_8 (List.mem_of_getElem? (i := 161) rfl), List.forall_mem_cons.mpr ⟨lt_8 (List.mem_of_getElem? (i := 162) rfl), (fun _ h => absurd h List.not_mem_nil)⟩⟩⟩⟩⟩⟩⟩⟩⟩⟩⟩⟩⟩⟩⟩⟩⟩⟩⟩⟩⟩⟩⟩⟩
set_option maxRecDepth 100000 in
set_option maxHeartbeats 4000000 in
theorem iwsL_law0_r56 : ∀ w ∈ wsL_law0_r56, w ∈ lw_tbl := List.forall_mem_cons.mpr ⟨lt_5 (List.mem_of_getElem? (i := 39) rfl), List.forall_mem_cons.mpr ⟨lt_5 (List.mem_of_getElem? (i := 40) rfl), List.forall_mem_cons.mpr ⟨lt_5 (List.mem_of_getElem? (i := 41) rfl), List.forall_mem_cons.mpr ⟨lt_5 (List.mem_of_getElem? (i := 42) rfl), List.forall_mem_cons.mpr ⟨lt_1 (List.mem_of_getElem? (i := 203) rfl), List.forall_mem_cons.mpr ⟨lt_8 (List.mem_of_getElem? (i := 163) rfl), List.forall_mem_cons.mpr ⟨lt_8 (List.mem_of_getElem? (i := 164) rfl), List.forall_mem_cons.mpr ⟨lt_8 (List.mem_of_getElem? (i := 165) rfl), List.forall_mem_cons.mpr ⟨lt_8 (List.mem_of_getElem? (i := 166) rfl), List.forall_mem_cons.mpr ⟨lt_5 (List.mem_of_getElem? (i := 43) rfl), List.forall_mem_cons.mpr ⟨lt_5 (List.mem_of_getElem? (i := 44) rfl), List.forall_mem_cons.mpr ⟨lt_5 (List.mem_of_getElem? (i := 45) rfl), List.forall_mem_cons.mpr ⟨lt_5 (List.mem_of_getElem? (i := 46) rfl), List.forall_mem_cons.mpr ⟨lt_1 (List.mem_of_getElem? (i := 201) rfl), List.forall_mem_cons.mpr ⟨lt_8 (List.mem_of_getElem? (i := 167) rfl), List.forall_mem_cons.mpr ⟨lt_8 (List.mem_of_getElem? (i := 168) rfl), List.forall_mem_cons.mpr ⟨lt_8 (List.mem_of_getElem? (i := 169) rfl), List.forall_mem_cons.mpr ⟨lt_8 (List.mem_of_getElem? (i := 170) rfl), List.forall_mem_cons.mpr ⟨lt_5 (List.mem_of_getElem? (i := 47) rfl), List.forall_mem_cons.mpr ⟨lt_5 (List.mem_of_getElem? (i := 48) rfl), List.forall_mem_cons.mpr ⟨lt_5 (List.mem_of_getElem? (i := 49) rfl), List.forall_mem_cons.mpr ⟨lt_5 (List.mem_of_getElem? (i := 50) rfl), List.forall_mem_cons.mpr ⟨lt_1 (List.mem_of_getElem? (i := 198) rfl), List.forall_mem_cons.mpr ⟨lt_8 (List.mem_of_getElem? (i := 171) rfl), (fun _ h => absurd h List.not_mem_nil)⟩⟩⟩⟩⟩⟩⟩⟩⟩⟩⟩⟩⟩⟩⟩⟩⟩⟩⟩⟩⟩⟩⟩⟩
set_option maxRecDepth 100000 in
set_option maxHeartbeats 4000000 in
theorem iwsL_law0_r57 : ∀ w ∈ wsL_law0_r57, w ∈ lw_tbl := List.forall_mem_cons.mpr ⟨lt_8 (List.mem_of_getElem? (i := 172) rfl), List.forall_mem_cons.mpr ⟨lt_8 (List.mem_of_getElem? (i := 173) rfl), List.forall_mem_cons.mpr ⟨lt_8 (List.mem_of_getElem? (i := 174) rfl), List.forall_mem_cons.mpr ⟨lt_5 (List.mem_of_getElem? (i := 51) rfl), List.forall_mem_cons.mpr ⟨lt_5 (List.mem_of_getElem? (i := 52) rfl), List.forall_mem_cons.mpr ⟨lt_5 (List.mem_of_getElem? (i := 53) rfl), List.forall_mem_cons.mpr ⟨lt_5 (List.mem_of_getElem? (i := 54) rfl), List.forall_mem_cons.mpr ⟨lt_8 (List.mem_of_getElem? (i := 175) rfl), List.forall_mem_cons.mpr ⟨lt_8 (List.mem_of_getElem? (i := 176) rfl), List.forall_mem_cons.mpr ⟨lt_8 (List.mem_of_getElem? (i := 177) rfl), List.forall_mem_cons.mpr ⟨lt_8 (List.mem_of_getElem? (i := 178) rfl), List.forall_mem_cons.mpr ⟨lt_5 (List.mem_of_getElem? (i := 55) rfl), List.forall_mem_cons.mpr ⟨lt_5 (List.mem_of_getElem? (i := 56) rfl), List.forall_mem_cons.mpr ⟨lt_5 (List.mem_of_getElem? (i := 57) rfl), List.forall_mem_cons.mpr ⟨lt_5 (List.mem_of_getElem? (i := 58) rfl), List.forall_mem_cons.mpr ⟨lt_5 (List.mem_of_getElem? (i := 59) rfl), List.forall_mem_cons.mpr ⟨lt_5 (List.mem_of_getElem? (i := 60) rfl), List.forall_mem_cons.mpr ⟨lt_5 (List.mem_of_getElem? (i := 61) rfl), List.forall_mem_cons.mpr ⟨lt_5 (List.mem_of_getElem? (i := 62) rfl), List.forall_mem_cons.mpr ⟨lt_5 (List.mem_of_getElem? (i := 63) rfl), List.forall_mem_cons.mpr ⟨lt_5 (List.mem_of_getElem? (i := 64) rfl), List.forall_mem_cons.mpr ⟨lt_5 (List.mem_of_getElem? (i := 65) rfl), List.forall_mem_cons.mpr ⟨lt_5 (List.mem_of_getElem? (i := 66) rfl), List.forall_mem_cons.mpr ⟨lt_8 (List.mem_of_getElem? (i := 179) rfl), (fun _ h => absurd h List.not_mem_nil)⟩⟩⟩⟩⟩⟩⟩⟩⟩⟩⟩⟩⟩⟩⟩⟩⟩⟩⟩⟩⟩⟩⟩⟩
set_option maxRecDepth 100000 in
set_option maxHeartbeats 4000000 in
theorem iwsL_law0_r58 : ∀ w ∈ wsL_law0_r58, w ∈ lw_tbl := List.forall_mem_cons.mpr ⟨lt_8 (List.mem_of_getElem? (i := 180) rfl), List.forall_mem_cons.mpr ⟨lt_8 (List.mem_of_getElem? (i := 181) rfl), List.forall_mem_cons.mpr ⟨lt_8 (List.mem_of_getElem? (i := 182) rfl), List.forall_mem_cons.mpr ⟨lt_8 (List.mem_of_getElem? (i := 183) rfl), List.forall_mem_cons.mpr ⟨lt_8 (List.mem_of_getElem? (i := 185) rfl), List.forall_mem_cons.mpr ⟨lp_6 (n := 69) (List.mem_of_getElem? (i := 14) rfl), List.forall_mem_cons.mpr ⟨lt_8 (List.mem_of_getElem? (i := 186) rfl), List.forall_mem_cons.mpr ⟨lt_5 (List.mem_of_getElem? (i := 67) rfl), List.forall_mem_cons.mpr ⟨lt_5 (List.mem_of_getElem? (i := 68) rfl), List.forall_mem_cons.mpr ⟨lt_5 (List.mem_of_getElem? (i := 69) rfl), List.forall_mem_cons.mpr ⟨lt_5 (List.mem_of_getElem? (i := 70) rfl), List.forall_mem_cons.mpr ⟨lt_5 (List.mem_of_getElem? (i := 71) rfl), List.forall_mem_cons.mpr ⟨lt_5 (List.mem_of_getElem? (i := 73) rfl), List.forall_mem_cons.mpr ⟨lp_2 (n := 15) (List.mem_of_getElem? (i := 7) rfl), List.forall_mem_cons.mpr ⟨lt_5 (List.mem_of_getElem? (i := 74) rfl), List.forall_mem_cons.mpr ⟨lt_5 (List.mem_of_getElem? (i := 75) rfl), List.forall_mem_cons.mpr ⟨lt_5 (List.mem_of_getElem? (i := 76) rfl), List.forall_mem_cons.mpr ⟨lt_5 (List.mem_of_getElem? (i := 77) rfl), List.forall_mem_cons.mpr ⟨lt_5 (List.mem_of_getElem? (i := 78) rfl), List.forall_mem_cons.mpr ⟨lt_5 (List.mem_of_getElem? (i := 79) rfl), List.forall_mem_cons.mpr ⟨lt_2 (List.mem_of_getElem? (i := 106) rfl), List.forall_mem_cons.mpr ⟨lt_2 (List.mem_of_getElem? (i := 101) rfl), List.forall_mem_cons.mpr ⟨lt_5 (List.mem_of_getElem? (i := 80) rfl), List.forall_mem_cons.mpr ⟨lt_5 (List.mem_of_getElem? (i := 82) rfl), (fun _ h => absurd h List.not_mem_nil)⟩⟩⟩⟩⟩⟩⟩⟩⟩⟩⟩⟩⟩⟩⟩⟩⟩⟩⟩⟩⟩⟩⟩⟩
set_option maxRecDepth 100000 in
set_option maxHeartbeats 4000000 in
theorem iwsL_law0_r59 : ∀ w ∈ wsL_law0_r59, w ∈ lw_tbl := List.forall_mem_cons.mpr ⟨lp_2 (n := 4) (List.mem_of_getElem? (i := 8) rfl), List.forall_mem_cons.mpr ⟨lt_5 (List.mem_of_getElem? (i := 83) rfl), List.forall_mem_cons.mpr ⟨lt_2 (List.mem_of_getElem? (i := 37) rfl), List.forall_mem_cons.mpr ⟨lt_2 (List.mem_of_getElem? (i := 47) rfl), List.forall_mem_cons.mpr ⟨lt_2 (List.mem_of_getElem? (i := 50) rfl), List.forall_mem_cons.mpr ⟨lt_5 (List.mem_of_getElem? (i := 85) rfl), List.forall_mem_cons.mpr ⟨lt_5 (List.mem_of_getElem? (i := 87) rfl), List.forall_mem_cons.mpr ⟨lt_5 (List.mem_of_getElem? (i := 84) rfl), List.forall_mem_cons.mpr ⟨lt_5 (List.mem_of_getElem? (i := 86) rfl), List.forall_mem_cons.mpr ⟨lt_8 (List.mem_of_getElem? (i := 187) rfl), List.forall_mem_cons.mpr ⟨lt_8 (List.mem_of_getElem? (i := 188) rfl), List.forall_mem_cons.mpr ⟨lt_8 (List.mem_of_getElem? (i := 189) rfl), List.forall_mem_cons.mpr ⟨lt_8 (List.mem_of_getElem? (i := 190) rfl), List.forall_mem_cons.mpr ⟨lt_8 (List.mem_of_getElem? (i := 191) rfl), List.forall_mem_cons.mpr ⟨lt_8 (List.mem_of_getElem? (i := 193) rfl), List.forall_mem_cons.mpr ⟨lp_6 (n := 69) (List.mem_of_getElem? (i := 15) rfl), List.forall_mem_cons.mpr ⟨lt_8 (List.mem_of_getElem? (i := 194) rfl), List.forall_mem_cons.mpr ⟨lt_8 (List.mem_of_getElem? (i := 195) rfl), List.forall_mem_cons.mpr ⟨lt_8 (List.mem_of_getElem? (i := 197) rfl), List.forall_mem_cons.mpr ⟨lp_7 (n := 69) (List.mem_of_getElem? (i := 0) rfl), List.forall_mem_cons.mpr ⟨lt_8 (List.mem_of_getElem? (i := 198) rfl), List.forall_mem_cons.mpr ⟨lt_8 (List.mem_of_getElem? (i := 199) rfl), List.forall_mem_cons.mpr ⟨lt_8 (List.mem_of_getElem? (i := 201) rfl), List.forall_mem_cons.mpr ⟨lp_7 (n := 69) (List.mem_of_getElem? (i := 1) rfl), (fun _ h => absurd h List.not_mem_nil)⟩⟩⟩⟩⟩⟩⟩⟩⟩⟩⟩⟩⟩⟩⟩⟩⟩⟩⟩⟩⟩⟩⟩⟩
set_option maxRecDepth 100000 in
set_option maxHeartbeats 4000000 in
theorem iwsL_law0_r60 : ∀ w ∈ wsL_law0_r60, w ∈ lw_tbl := List.forall_mem_cons.mpr ⟨lt_8 (List.mem_of_getElem? (i := 202) rfl), List.forall_mem_cons.mpr ⟨lt_8 (List.mem_of_getElem? (i := 203) rfl), List.forall_mem_cons.mpr ⟨lt_8 (List.mem_of_getElem? (i := 205) rfl), List.forall_mem_cons.mpr ⟨lp_7 (n := 69) (List.mem_of_getElem? (i := 2) rfl), List.forall_mem_cons.mpr ⟨lt_8 (List.mem_of_getElem? (i := 206) rfl), List.forall_mem_cons.mpr ⟨lt_8 (List.mem_of_getElem? (i := 207) rfl), List.forall_mem_cons.mpr ⟨lt_5 (List.mem_of_getElem? (i := 88) rfl), List.forall_mem_cons.mpr ⟨lt_5 (List.mem_of_getElem? (i := 89) rfl), List.forall_mem_cons.mpr ⟨lt_5 (List.mem_of_getElem? (i := 90) rfl), List.forall_mem_cons.mpr ⟨lt_5 (List.mem_of_getElem? (i := 91) rfl), List.forall_mem_cons.mpr ⟨lt_5 (List.mem_of_getElem? (i := 92) rfl), List.forall_mem_cons.mpr ⟨lt_5 (List.mem_of_getElem? (i := 93) rfl), List.forall_mem_cons.mpr ⟨lt_5 (List.mem_of_getElem? (i := 94) rfl), List.forall_mem_cons.mpr ⟨lt_5 (List.mem_of_getElem? (i := 95) rfl), List.forall_mem_cons.mpr ⟨lt_8 (List.mem_of_getElem? (i := 208) rfl), List.forall_mem_cons.mpr ⟨lt_8 (List.mem_of_getElem? (i := 209) rfl), List.forall_mem_cons.mpr ⟨lt_8 (List.mem_of_getElem? (i := 210) rfl), List.forall_mem_cons.mpr ⟨lt_8 (List.mem_of_getElem? (i := 211) rfl), List.forall_mem_cons.mpr ⟨lt_8 (List.mem_of_getElem? (i := 212) rfl), List.forall_mem_cons.mpr ⟨lt_8 (List.mem_of_getElem? (i := 214) rfl), List.forall_mem_cons.mpr ⟨lp_7 (n := 69) (List.mem_of_getElem? (i := 3) rfl), List.forall_mem_cons.mpr ⟨lt_8 (List.mem_of_getElem? (i := 215) rfl), List.forall_mem_cons.mpr ⟨lt_5 (List.mem_of_getElem? (i := 96) rfl), List.forall_mem_cons.mpr ⟨lt_5 (List.mem_of_getElem? (i := 97) rfl), (fun _ h => absurd h List.not_mem_nil)⟩⟩⟩⟩⟩⟩⟩⟩⟩⟩⟩⟩⟩⟩⟩⟩⟩⟩⟩⟩⟩⟩⟩⟩
set_option maxRecDepth 100000 in
set_option maxHeartbeats 4000000 in
theorem iwsL_law0_r61 : ∀ w ∈ wsL_law0_r61, w ∈ lw_tbl := List.forall_mem_cons.mpr ⟨lt_5 (List.mem_of_getElem? (i := 98) rfl), List.forall_mem_cons.mpr ⟨lt_5 (List.mem_of_getElem? (i := 99) rfl), List.forall_mem_cons.mpr ⟨lt_8 (List.mem_of_getElem? (i := 216) rfl), List.forall_mem_cons.mpr ⟨lt_8 (List.mem_of_getElem? (i := 217) rfl), List.forall_mem_cons.mpr ⟨lt_8 (List.mem_of_getElem? (i := 218) rfl), List.forall_mem_cons.mpr ⟨lt_8 (List.mem_of_getElem? (i := 219) rfl), List.forall_mem_cons.mpr ⟨lt_6 (List.mem_of_getElem? (i := 16) rfl), List.forall_mem_cons.mpr ⟨lt_6 (List.mem_of_getElem? (i := 18) rfl), List.forall_mem_cons.mpr ⟨lt_8 (List.mem_of_getElem? (i := 220) rfl), List.forall_mem_cons.mpr ⟨lt_8 (List.mem_of_getElem? (i := 222) rfl), List.forall_mem_cons.mpr ⟨lp_7 (n := 69) (List.mem_of_getElem? (i := 4) rfl), List.forall_mem_cons.mpr ⟨lt_8 (List.mem_of_getElem? (i := 223) rfl), List.forall_mem_cons.mpr ⟨lt_5 (List.mem_of_getElem? (i := 100) rfl), List.forall_mem_cons.mpr ⟨lt_5 (List.mem_of_getElem? (i := 101) rfl), List.forall_mem_cons.mpr ⟨lt_5 (List.mem_of_getElem? (i := 102) rfl), List.forall_mem_cons.mpr ⟨lt_5 (List.mem_of_getElem? (i := 103) rfl), List.forall_mem_cons.mpr ⟨lt_8 (List.mem_of_getElem? (i := 224) rfl), List.forall_mem_cons.mpr ⟨lt_8 (List.mem_of_getElem? (i := 225) rfl), List.forall_mem_cons.mpr ⟨lt_8 (List.mem_of_getElem? (i := 226) rfl), List.forall_mem_cons.mpr ⟨lt_8 (List.mem_of_getElem? (i := 227) rfl), List.forall_mem_cons.mpr ⟨lt_5 (List.mem_of_getElem? (i := 112) rfl), List.forall_mem_cons.mpr ⟨lt_5 (List.mem_of_getElem? (i := 113) rfl), List.forall_mem_cons.mpr ⟨lt_1 (List.mem_of_getElem? (i := 0) rfl), List.forall_mem_cons.mpr ⟨lt_5 (List.mem_of_getElem? (i := 114) rfl), (fun _ h => absurd h List.not_mem_nil)⟩⟩⟩⟩⟩⟩⟩⟩⟩⟩⟩⟩⟩⟩⟩⟩⟩⟩⟩⟩⟩⟩⟩⟩
set_option maxRecDepth 100000 in
set_option maxHeartbeats 4000000 in
theorem iwsL_law0_r62 : ∀ w ∈ wsL_law0_r62, w ∈ lw_tbl := List.forall_mem_cons.mpr ⟨lt_5 (List.mem_of_getElem? (i := 115) rfl), List.forall_mem_cons.mpr ⟨lt_5 (List.mem_of_getElem? (i := 116) rfl), List.forall_mem_cons.mpr ⟨lt_5 (List.mem_of_getElem? (i := 117) rfl), List.forall_mem_cons.mpr ⟨lt_5 (List.mem_of_getElem? (i := 118) rfl), List.forall_mem_cons.mpr ⟨lt_5 (List.mem_of_getElem? (i := 119) rfl), List.forall_mem_cons.mpr ⟨lt_5 (List.mem_of_getElem? (i := 120) rfl), List.forall_mem_cons.mpr ⟨lt_1 (List.mem_of_getElem? (i := 24) rfl), List.forall_mem_cons.mpr ⟨lt_1 (List.mem_of_getElem? (i := 231) rfl), List.forall_mem_cons.mpr ⟨lt_1 (List.mem_of_getElem? (i := 227) rfl), List.forall_mem_cons.mpr ⟨lt_8 (List.mem_of_getElem? (i := 228) rfl), List.forall_mem_cons.mpr ⟨lt_8 (List.mem_of_getElem? (i := 229) rfl), List.forall_mem_cons.mpr ⟨lt_8 (List.mem_of_getElem? (i := 230) rfl), List.forall_mem_cons.mpr ⟨lt_8 (List.mem_of_getElem? (i := 231) rfl), List.forall_mem_cons.mpr ⟨lt_5 (List.mem_of_getElem? (i := 104) rfl), List.forall_mem_cons.mpr ⟨lt_5 (List.mem_of_getElem? (i := 105) rfl), List.forall_mem_cons.mpr ⟨lt_5 (List.mem_of_getElem? (i := 106) rfl), List.forall_mem_cons.mpr ⟨lt_5 (List.mem_of_getElem? (i := 107) rfl), List.forall_mem_cons.mpr ⟨lt_8 (List.mem_of_getElem? (i := 232) rfl), List.forall_mem_cons.mpr ⟨lt_8 (List.mem_of_getElem? (i := 233) rfl), List.forall_mem_cons.mpr ⟨lt_8 (List.mem_of_getElem? (i := 234) rfl), List.forall_mem_cons.mpr ⟨lt_8 (List.mem_of_getElem? (i := 235) rfl), List.forall_mem_cons.mpr ⟨lt_5 (List.mem_of_getElem? (i := 108) rfl), List.forall_mem_cons.mpr ⟨lt_5 (List.mem_of_getElem? (i := 109) rfl), List.forall_mem_cons.mpr ⟨lt_5 (List.mem_of_getElem? (i := 110) rfl), (fun _ h => absurd h List.not_mem_nil)⟩⟩⟩⟩⟩⟩⟩⟩⟩⟩⟩⟩⟩⟩⟩⟩⟩⟩⟩⟩⟩⟩⟩⟩
set_option maxRecDepth 100000 in
set_option maxHeartbeats 4000000 in
theorem iwsL_law0_r63 : ∀ w ∈ wsL_law0_r63, w ∈ lw_tbl := List.forall_mem_cons.mpr ⟨lt_5 (List.mem_of_getElem? (i := 111) rfl), List.forall_mem_cons.mpr ⟨lt_8 (List.mem_of_getElem? (i := 236) rfl), List.forall_mem_cons.mpr ⟨lt_8 (List.mem_of_getElem? (i := 237) rfl), List.forall_mem_cons.mpr ⟨lt_8 (List.mem_of_getElem? (i := 238) rfl), List.forall_mem_cons.mpr ⟨lt_8 (List.mem_of_getElem? (i := 239) rfl), (fun _ h => absurd h List.not_mem_nil)⟩⟩⟩⟩⟩
set_option maxRecDepth 100000 in
set_option maxHeartbeats 4000000 in
theorem inX11 : ∀ w ∈ wsX110, w ∈ lw_tbl := by
  intro w h
  obtain ⟨k, hk, rfl⟩ := List.mem_map.mp h
  replace hk := List.mem_range.mp hk
  match k, hk with
  | 0, _ => exact lt_2 (List.mem_of_getElem? (i := 165) rfl)
  | 1, _ => exact lt_2 (List.mem_of_getElem? (i := 167) rfl)
  | 2, _ => exact lt_2 (List.mem_of_getElem? (i := 169) rfl)
  | 3, _ => exact lt_2 (List.mem_of_getElem? (i := 171) rfl)
  | 4, _ => exact lt_2 (List.mem_of_getElem? (i := 173) rfl)
  | 5, _ => exact lt_2 (List.mem_of_getElem? (i := 175) rfl)
  | 6, _ => exact lt_2 (List.mem_of_getElem? (i := 177) rfl)
  | 7, _ => exact lt_2 (List.mem_of_getElem? (i := 179) rfl)
  | 8, _ => exact lt_2 (List.mem_of_getElem? (i := 181) rfl)
  | 9, _ => exact lt_2 (List.mem_of_getElem? (i := 183) rfl)
  | 10, _ => exact lt_2 (List.mem_of_getElem? (i := 185) rfl)
  | 11, _ => exact lt_2 (List.mem_of_getElem? (i := 187) rfl)
  | 12, _ => exact lt_2 (List.mem_of_getElem? (i := 189) rfl)
  | 13, _ => exact lt_2 (List.mem_of_getElem? (i := 191) rfl)
  | 14, _ => exact lt_2 (List.mem_of_getElem? (i := 193) rfl)
  | k + 15, hk => exact absurd hk (by omega)
set_option maxRecDepth 100000 in
set_option maxHeartbeats 4000000 in
theorem inX12 : ∀ w ∈ wsX120, w ∈ lw_tbl := by
  intro w h
  obtain ⟨k, hk, rfl⟩ := List.mem_map.mp h
  replace hk := List.mem_range.mp hk
  match k, hk with
  | 0, _ => exact lt_6 (List.mem_of_getElem? (i := 20) rfl)
  | 1, _ => exact lt_6 (List.mem_of_getElem? (i := 22) rfl)
  | 2, _ => exact lt_6 (List.mem_of_getElem? (i := 24) rfl)
  | 3, _ => exact lt_6 (List.mem_of_getElem? (i := 26) rfl)
  | 4, _ => exact lt_6 (List.mem_of_getElem? (i := 28) rfl)
  | 5, _ => exact lt_6 (List.mem_of_getElem? (i := 30) rfl)
  | 6, _ => exact lt_6 (List.mem_of_getElem? (i := 32) rfl)
  | 7, _ => exact lt_6 (List.mem_of_getElem? (i := 34) rfl)
  | 8, _ => exact lt_6 (List.mem_of_getElem? (i := 36) rfl)
  | 9, _ => exact lt_6 (List.mem_of_getElem? (i := 38) rfl)
  | 10, _ => exact lt_6 (List.mem_of_getElem? (i := 40) rfl)
  | 11, _ => exact lt_6 (List.mem_of_getElem? (i := 42) rfl)
  | 12, _ => exact lt_6 (List.mem_of_getElem? (i := 44) rfl)
  | 13, _ => exact lt_6 (List.mem_of_getElem? (i := 46) rfl)
  | 14, _ => exact lt_6 (List.mem_of_getElem? (i := 48) rfl)
  | 15, _ => exact lt_6 (List.mem_of_getElem? (i := 50) rfl)
  | 16, _ => exact lt_6 (List.mem_of_getElem? (i := 52) rfl)
  | 17, _ => exact lt_6 (List.mem_of_getElem? (i := 54) rfl)
  | 18, _ => exact lt_6 (List.mem_of_getElem? (i := 56) rfl)
  | 19, _ => exact lt_6 (List.mem_of_getElem? (i := 58) rfl)
  | 20, _ => exact lt_6 (List.mem_of_getElem? (i := 60) rfl)
  | 21, _ => exact lt_6 (List.mem_of_getElem? (i := 62) rfl)
  | 22, _ => exact lt_6 (List.mem_of_getElem? (i := 64) rfl)
  | 23, _ => exact lt_6 (List.mem_of_getElem? (i := 66) rfl)
  | 24, _ => exact lt_6 (List.mem_of_getElem? (i := 68) rfl)
  | 25, _ => exact lt_6 (List.mem_of_getElem? (i := 70) rfl)
  | 26, _ => exact lt_6 (List.mem_of_getElem? (i := 72) rfl)
  | 27, _ => exact lt_6 (List.mem_of_getElem? (i := 74) rfl)
  | 28, _ => exact lt_6 (List.mem_of_getElem? (i := 76) rfl)
  | 29, _ => exact lt_6 (List.mem_of_getElem? (i := 78) rfl)
  | 30, _ => exact lt_6 (List.mem_of_getElem? (i := 80) rfl)
  | 31, _ => exact lt_6 (List.mem_of_getElem? (i := 82) rfl)
  | 32, _ => exact lt_6 (List.mem_of_getElem? (i := 84) rfl)
  | 33, _ => exact lt_6 (List.mem_of_getElem? (i := 86) rfl)
  | 34, _ => exact lt_6 (List.mem_of_getElem? (i := 88) rfl)
  | 35, _ => exact lt_6 (List.mem_of_getElem? (i := 90) rfl)
  | 36, _ => exact lt_6 (List.mem_of_getElem? (i := 92) rfl)
  | 37, _ => exact lt_6 (List.mem_of_getElem? (i := 94) rfl)
  | 38, _ => exact lt_6 (List.mem_of_getElem? (i := 96) rfl)
  | 39, _ => exact lt_6 (List.mem_of_getElem? (i := 98) rfl)
  | 40, _ => exact lt_6 (List.mem_of_getElem? (i := 100) rfl)
  | 41, _ => exact lt_6 (List.mem_of_getElem? (i := 102) rfl)
  | 42, _ => exact lt_6 (List.mem_of_getElem? (i := 104) rfl)
  | 43, _ => exact lt_6 (List.mem_of_getElem? (i := 106) rfl)
  | 44, _ => exact lt_6 (List.mem_of_getElem? (i := 108) rfl)
  | 45, _ => exact lt_6 (List.mem_of_getElem? (i := 110) rfl)
  | 46, _ => exact lt_6 (List.mem_of_getElem? (i := 112) rfl)
  | 47, _ => exact lt_6 (List.mem_of_getElem? (i := 114) rfl)
  | 48, _ => exact lt_6 (List.mem_of_getElem? (i := 116) rfl)
  | 49, _ => exact lt_6 (List.mem_of_getElem? (i := 118) rfl)
  | 50, _ => exact lt_6 (List.mem_of_getElem? (i := 120) rfl)
  | 51, _ => exact lt_6 (List.mem_of_getElem? (i := 122) rfl)
  | 52, _ => exact lt_6 (List.mem_of_getElem? (i := 124) rfl)
  | 53, _ => exact lt_6 (List.mem_of_getElem? (i := 126) rfl)
  | 54, _ => exact lt_6 (List.mem_of_getElem? (i := 128) rfl)
  | 55, _ => exact lt_6 (List.mem_of_getElem? (i := 130) rfl)
  | 56, _ => exact lt_6 (List.mem_of_getElem? (i := 132) rfl)
  | 57, _ => exact lt_6 (List.mem_of_getElem? (i := 134) rfl)
  | 58, _ => exact lt_6 (List.mem_of_getElem? (i := 136) rfl)
  | 59, _ => exact lt_6 (List.mem_of_getElem? (i := 138) rfl)
  | 60, _ => exact lt_6 (List.mem_of_getElem? (i := 140) rfl)
  | 61, _ => exact lt_6 (List.mem_of_getElem? (i := 142) rfl)
  | 62, _ => exact lt_6 (List.mem_of_getElem? (i := 144) rfl)
  | 63, _ => exact lt_6 (List.mem_of_getElem? (i := 146) rfl)
  | 64, _ => exact lt_6 (List.mem_of_getElem? (i := 148) rfl)
  | 65, _ => exact lt_6 (List.mem_of_getElem? (i := 150) rfl)
  | 66, _ => exact lt_6 (List.mem_of_getElem? (i := 152) rfl)
  | 67, _ => exact lt_6 (List.mem_of_getElem? (i := 154) rfl)
  | 68, _ => exact lt_6 (List.mem_of_getElem? (i := 156) rfl)
  | k + 69, hk => exact absurd hk (by omega)
set_option maxRecDepth 100000 in
set_option maxHeartbeats 4000000 in
theorem inX7 : ∀ w ∈ wsX70, w ∈ lw_tbl := by
  intro w h
  obtain ⟨k, hk, rfl⟩ := List.mem_map.mp h
  replace hk := List.mem_range.mp hk
  match k, hk with
  | 0, _ => exact lt_1 (List.mem_of_getElem? (i := 80) rfl)
  | 1, _ => exact lt_1 (List.mem_of_getElem? (i := 82) rfl)
  | 2, _ => exact lt_1 (List.mem_of_getElem? (i := 84) rfl)
  | 3, _ => exact lt_1 (List.mem_of_getElem? (i := 86) rfl)
  | 4, _ => exact lt_1 (List.mem_of_getElem? (i := 88) rfl)
  | k + 5, hk => exact absurd hk (by omega)
set_option maxRecDepth 100000 in
set_option maxHeartbeats 4000000 in
theorem inX8 : ∀ w ∈ wsX80, w ∈ lw_tbl := by
  intro w h
  obtain ⟨k, hk, rfl⟩ := List.mem_map.mp h
  replace hk := List.mem_range.mp hk
  match k, hk with
  | 0, _ => exact lt_1 (List.mem_of_getElem? (i := 127) rfl)
  | 1, _ => exact lt_1 (List.mem_of_getElem? (i := 129) rfl)
  | 2, _ => exact lt_1 (List.mem_of_getElem? (i := 131) rfl)
  | 3, _ => exact lt_1 (List.mem_of_getElem? (i := 133) rfl)
  | 4, _ => exact lt_1 (List.mem_of_getElem? (i := 135) rfl)
  | 5, _ => exact lt_1 (List.mem_of_getElem? (i := 137) rfl)
  | 6, _ => exact lt_1 (List.mem_of_getElem? (i := 139) rfl)
  | 7, _ => exact lt_1 (List.mem_of_getElem? (i := 141) rfl)
  | k + 8, hk => exact absurd hk (by omega)
set_option maxRecDepth 100000 in
set_option maxHeartbeats 4000000 in
theorem inX2 : ∀ w ∈ wsX20, w ∈ lw_tbl := by
  intro w h
  obtain ⟨k, hk, rfl⟩ := List.mem_map.mp h
  replace hk := List.mem_range.mp hk
  match k, hk with
  | 0, _ => exact lt_1 (List.mem_of_getElem? (i := 158) rfl)
  | 1, _ => exact lt_1 (List.mem_of_getElem? (i := 160) rfl)
  | 2, _ => exact lt_1 (List.mem_of_getElem? (i := 162) rfl)
  | 3, _ => exact lt_1 (List.mem_of_getElem? (i := 164) rfl)
  | 4, _ => exact lt_1 (List.mem_of_getElem? (i := 166) rfl)
  | 5, _ => exact lt_1 (List.mem_of_getElem? (i := 168) rfl)
  | k + 6, hk => exact absurd hk (by omega)
set_option maxRecDepth 100000 in
set_option maxHeartbeats 4000000 in
theorem inX6 : ∀ w ∈ wsX60, w ∈ lw_tbl := by
  intro w h
  obtain ⟨k, hk, rfl⟩ := List.mem_map.mp h
  replace hk := List.mem_range.mp hk
  match k, hk with
  | 0, _ => exact lt_1 (List.mem_of_getElem? (i := 109) rfl)
  | 1, _ => exact lt_1 (List.mem_of_getElem? (i := 111) rfl)
  | k + 2, hk => exact absurd hk (by omega)
set_option maxRecDepth 100000 in
set_option maxHeartbeats 4000000 in
theorem inX9 : ∀ w ∈ wsX90, w ∈ lw_tbl := by
  intro w h
  obtain ⟨k, hk, rfl⟩ := List.mem_map.mp h
  replace hk := List.mem_range.mp hk
  match k, hk with
  | 0, _ => exact lt_1 (List.mem_of_getElem? (i := 183) rfl)
  | 1, _ => exact lt_1 (List.mem_of_getElem? (i := 185) rfl)
  | k + 2, hk => exact absurd hk (by omega)
set_option maxRecDepth 100000 in
set_option maxHeartbeats 4000000 in
theorem inX1 : ∀ w ∈ wsX10, w ∈ lw_tbl := by
  intro w h
  obtain ⟨k, hk, rfl⟩ := List.mem_map.mp h
  replace hk := List.mem_range.mp hk
  match k, hk with
  | 0, _ => exact lt_1 (List.mem_of_getElem? (i := 204) rfl)
  | 1, _ => exact lt_1 (List.mem_of_getElem? (i := 206) rfl)
  | 2, _ => exact lt_1 (List.mem_of_getElem? (i := 208) rfl)
  | 3, _ => exact lt_1 (List.mem_of_getElem? (i := 210) rfl)
  | k + 4, hk => exact absurd hk (by omega)
set_option maxRecDepth 100000 in
set_option maxHeartbeats 4000000 in
theorem inX4 : ∀ w ∈ wsX40, w ∈ lw_tbl := by
  intro w h
  obtain ⟨k, hk, rfl⟩ := List.mem_map.mp h
  replace hk := List.mem_range.mp hk
  match k, hk with
  | 0, _ => exact lt_2 (List.mem_of_getElem? (i := 125) rfl)
  | 1, _ => exact lt_2 (List.mem_of_getElem? (i := 127) rfl)
  | 2, _ => exact lt_2 (List.mem_of_getElem? (i := 129) rfl)
  | 3, _ => exact lt_2 (List.mem_of_getElem? (i := 131) rfl)
  | 4, _ => exact lt_2 (List.mem_of_getElem? (i := 133) rfl)
  | 5, _ => exact lt_2 (List.mem_of_getElem? (i := 135) rfl)
  | 6, _ => exact lt_2 (List.mem_of_getElem? (i := 137) rfl)
  | 7, _ => exact lt_2 (List.mem_of_getElem? (i := 139) rfl)
  | 8, _ => exact lt_2 (List.mem_of_getElem? (i := 141) rfl)
  | 9, _ => exact lt_2 (List.mem_of_getElem? (i := 143) rfl)
  | 10, _ => exact lt_2 (List.mem_of_getElem? (i := 145) rfl)
  | 11, _ => exact lt_2 (List.mem_of_getElem? (i := 147) rfl)
  | k + 12, hk => exact absurd hk (by omega)
set_option maxRecDepth 100000 in
set_option maxHeartbeats 4000000 in
theorem inX10 : ∀ w ∈ wsX100, w ∈ lw_tbl := by
  intro w h
  obtain ⟨k, hk, rfl⟩ := List.mem_map.mp h
  replace hk := List.mem_range.mp hk
  match k, hk with
  | 0, _ => exact lt_1 (List.mem_of_getElem? (i := 56) rfl)
  | 1, _ => exact lt_1 (List.mem_of_getElem? (i := 58) rfl)
  | 2, _ => exact lt_1 (List.mem_of_getElem? (i := 60) rfl)
  | 3, _ => exact lt_1 (List.mem_of_getElem? (i := 62) rfl)
  | 4, _ => exact lt_1 (List.mem_of_getElem? (i := 64) rfl)
  | 5, _ => exact lt_1 (List.mem_of_getElem? (i := 66) rfl)
  | 6, _ => exact lt_1 (List.mem_of_getElem? (i := 68) rfl)
  | k + 7, hk => exact absurd hk (by omega)
set_option maxRecDepth 100000 in
set_option maxHeartbeats 4000000 in
theorem inX5 : ∀ w ∈ wsX50, w ∈ lw_tbl := by
  intro w h
  obtain ⟨k, hk, rfl⟩ := List.mem_map.mp h
  replace hk := List.mem_range.mp hk
  match k, hk with
  | 0, _ => exact lt_1 (List.mem_of_getElem? (i := 232) rfl)
  | 1, _ => exact lt_1 (List.mem_of_getElem? (i := 234) rfl)
  | k + 2, hk => exact absurd hk (by omega)
set_option maxRecDepth 100000 in
set_option maxHeartbeats 4000000 in
theorem inX0 : ∀ w ∈ wsX00, w ∈ lw_tbl := by
  intro w h
  obtain ⟨k, hk, rfl⟩ := List.mem_map.mp h
  replace hk := List.mem_range.mp hk
  match k, hk with
  | 0, _ => exact lt_2 (List.mem_of_getElem? (i := 56) rfl)
  | 1, _ => exact lt_2 (List.mem_of_getElem? (i := 58) rfl)
  | 2, _ => exact lt_2 (List.mem_of_getElem? (i := 60) rfl)
  | 3, _ => exact lt_2 (List.mem_of_getElem? (i := 62) rfl)
  | 4, _ => exact lt_2 (List.mem_of_getElem? (i := 64) rfl)
  | 5, _ => exact lt_2 (List.mem_of_getElem? (i := 66) rfl)
  | 6, _ => exact lt_2 (List.mem_of_getElem? (i := 68) rfl)
  | 7, _ => exact lt_2 (List.mem_of_getElem? (i := 70) rfl)
  | 8, _ => exact lt_2 (List.mem_of_getElem? (i := 72) rfl)
  | 9, _ => exact lt_2 (List.mem_of_getElem? (i := 74) rfl)
  | 10, _ => exact lt_2 (List.mem_of_getElem? (i := 76) rfl)
  | 11, _ => exact lt_2 (List.mem_of_getElem? (i := 78) rfl)
  | 12, _ => exact lt_2 (List.mem_of_getElem? (i := 80) rfl)
  | 13, _ => exact lt_2 (List.mem_of_getElem? (i := 82) rfl)
  | 14, _ => exact lt_2 (List.mem_of_getElem? (i := 84) rfl)
  | 15, _ => exact lt_2 (List.mem_of_getElem? (i := 86) rfl)
  | k + 16, hk => exact absurd hk (by omega)
