/-- the words that every method gets: the tables' words, those that keep -/
def wsG : List Cond := lw_tbl.filter goodWord
theorem wsG_good : wsG.all goodWord = true := List.all_eq_true.mpr fun _ h => (List.mem_filter.mp h).2
theorem inTb {w : Cond} (h : w ∈ tables_1) (hg : goodWord w = true) : w ∈ wsG := List.mem_filter.mpr ⟨List.mem_append_right _ h, hg⟩
theorem inT1 {w : Cond} {i : Nat} (h : tables_1_1[i]? = some w) (hg : goodWord w = true) : w ∈ wsG := inTb (List.mem_append_left _ (List.mem_of_getElem? h)) hg
theorem inT2 {w : Cond} {i : Nat} (h : tables_1_2[i]? = some w) (hg : goodWord w = true) : w ∈ wsG := inTb (List.mem_append_right _ (List.mem_append_left _ (List.mem_of_getElem? h))) hg
theorem inT3 {w : Cond} {i : Nat} (h : tables_1_3[i]? = some w) (hg : goodWord w = true) : w ∈ wsG := inTb (List.mem_append_right _ (List.mem_append_right _ (List.mem_append_left _ (List.mem_of_getElem? h)))) hg
theorem inT4 {w : Cond} {i : Nat} (h : tables_1_4[i]? = some w) (hg : goodWord w = true) : w ∈ wsG := inTb (List.mem_append_right _ (List.mem_append_right _ (List.mem_append_right _ (List.mem_append_left _ (List.mem_of_getElem? h))))) hg
theorem inT5 {w : Cond} {i : Nat} (h : tables_1_5[i]? = some w) (hg : goodWord w = true) : w ∈ wsG := inTb (List.mem_append_right _ (List.mem_append_right _ (List.mem_append_right _ (List.mem_append_right _ (List.mem_of_getElem? h))))) hg
theorem inS {w : Cond} {i : Nat} (h : (k2_sels lw_privs)[i]? = some w) (hg : goodWord w = true) : w ∈ wsG := List.mem_filter.mpr ⟨List.mem_append_left _ (List.mem_of_getElem? h), hg⟩

theorem lyX0_0 : u_lay RX0 TX0 0 ∈ wsG := inT1 (i := 43) rfl rfl
theorem lyX0_1 : u_lay RX0 TX0 1 ∈ wsG := inT1 (i := 45) rfl rfl
theorem lyX0_2 : u_lay RX0 TX0 2 ∈ wsG := inT1 (i := 47) rfl rfl
theorem lyX0_3 : u_lay RX0 TX0 3 ∈ wsG := inT1 (i := 49) rfl rfl
theorem lyX0_4 : u_lay RX0 TX0 4 ∈ wsG := inT1 (i := 51) rfl rfl
theorem lyX0_5 : u_lay RX0 TX0 5 ∈ wsG := inT1 (i := 53) rfl rfl
theorem lyX0_6 : u_lay RX0 TX0 6 ∈ wsG := inT1 (i := 55) rfl rfl
theorem lyX0_7 : u_lay RX0 TX0 7 ∈ wsG := inT1 (i := 57) rfl rfl
theorem lyX0_8 : u_lay RX0 TX0 8 ∈ wsG := inT1 (i := 59) rfl rfl
theorem lyX0_9 : u_lay RX0 TX0 9 ∈ wsG := inT1 (i := 61) rfl rfl
theorem lyX0_10 : u_lay RX0 TX0 10 ∈ wsG := inT1 (i := 63) rfl rfl
theorem lyX0_11 : u_lay RX0 TX0 11 ∈ wsG := inT1 (i := 65) rfl rfl
theorem inX0 : ∀ w ∈ u_ws RX0 TX0 12, w ∈ wsG := fun w h => by
  obtain ⟨k, hk, rfl⟩ := List.mem_map.mp h
  have hk := List.mem_range.mp hk
  match k, hk with
  | 0, _ => exact lyX0_0
  | 1, _ => exact lyX0_1
  | 2, _ => exact lyX0_2
  | 3, _ => exact lyX0_3
  | 4, _ => exact lyX0_4
  | 5, _ => exact lyX0_5
  | 6, _ => exact lyX0_6
  | 7, _ => exact lyX0_7
  | 8, _ => exact lyX0_8
  | 9, _ => exact lyX0_9
  | 10, _ => exact lyX0_10
  | 11, _ => exact lyX0_11
  | k + 12, hk => omega
theorem lyX1_0 : u_lay RX1 TX1 0 ∈ wsG := inT1 (i := 98) rfl rfl
theorem lyX1_1 : u_lay RX1 TX1 1 ∈ wsG := inT1 (i := 100) rfl rfl
theorem lyX1_2 : u_lay RX1 TX1 2 ∈ wsG := inT1 (i := 102) rfl rfl
theorem lyX1_3 : u_lay RX1 TX1 3 ∈ wsG := inT1 (i := 104) rfl rfl
theorem lyX1_4 : u_lay RX1 TX1 4 ∈ wsG := inT1 (i := 106) rfl rfl
theorem lyX1_5 : u_lay RX1 TX1 5 ∈ wsG := inT1 (i := 108) rfl rfl
theorem inX1 : ∀ w ∈ u_ws RX1 TX1 6, w ∈ wsG := fun w h => by
  obtain ⟨k, hk, rfl⟩ := List.mem_map.mp h
  have hk := List.mem_range.mp hk
  match k, hk with
  | 0, _ => exact lyX1_0
  | 1, _ => exact lyX1_1
  | 2, _ => exact lyX1_2
  | 3, _ => exact lyX1_3
  | 4, _ => exact lyX1_4
  | 5, _ => exact lyX1_5
  | k + 6, hk => omega
theorem lyX2_0 : u_lay RX2 TX2 0 ∈ wsG := inT1 (i := 185) rfl rfl
theorem lyX2_1 : u_lay RX2 TX2 1 ∈ wsG := inT1 (i := 187) rfl rfl
theorem lyX2_2 : u_lay RX2 TX2 2 ∈ wsG := inT1 (i := 189) rfl rfl
theorem lyX2_3 : u_lay RX2 TX2 3 ∈ wsG := inT1 (i := 191) rfl rfl
theorem lyX2_4 : u_lay RX2 TX2 4 ∈ wsG := inT1 (i := 193) rfl rfl
theorem lyX2_5 : u_lay RX2 TX2 5 ∈ wsG := inT1 (i := 195) rfl rfl
theorem lyX2_6 : u_lay RX2 TX2 6 ∈ wsG := inT1 (i := 197) rfl rfl
theorem lyX2_7 : u_lay RX2 TX2 7 ∈ wsG := inT1 (i := 199) rfl rfl
theorem lyX2_8 : u_lay RX2 TX2 8 ∈ wsG := inT1 (i := 201) rfl rfl
theorem lyX2_9 : u_lay RX2 TX2 9 ∈ wsG := inT1 (i := 203) rfl rfl
theorem lyX2_10 : u_lay RX2 TX2 10 ∈ wsG := inT1 (i := 205) rfl rfl
theorem inX2 : ∀ w ∈ u_ws RX2 TX2 11, w ∈ wsG := fun w h => by
  obtain ⟨k, hk, rfl⟩ := List.mem_map.mp h
  have hk := List.mem_range.mp hk
  match k, hk with
  | 0, _ => exact lyX2_0
  | 1, _ => exact lyX2_1
  | 2, _ => exact lyX2_2
  | 3, _ => exact lyX2_3
  | 4, _ => exact lyX2_4
  | 5, _ => exact lyX2_5
  | 6, _ => exact lyX2_6
  | 7, _ => exact lyX2_7
  | 8, _ => exact lyX2_8
  | 9, _ => exact lyX2_9
  | 10, _ => exact lyX2_10
  | k + 11, hk => omega
theorem lyX3_0 : u_lay RX3 TX3 0 ∈ wsG := inT2 (i := 108) rfl rfl
theorem lyX3_1 : u_lay RX3 TX3 1 ∈ wsG := inT2 (i := 110) rfl rfl
theorem lyX3_2 : u_lay RX3 TX3 2 ∈ wsG := inT2 (i := 112) rfl rfl
theorem lyX3_3 : u_lay RX3 TX3 3 ∈ wsG := inT2 (i := 114) rfl rfl
theorem lyX3_4 : u_lay RX3 TX3 4 ∈ wsG := inT2 (i := 116) rfl rfl
theorem inX3 : ∀ w ∈ u_ws RX3 TX3 5, w ∈ wsG := fun w h => by
  obtain ⟨k, hk, rfl⟩ := List.mem_map.mp h
  have hk := List.mem_range.mp hk
  match k, hk with
  | 0, _ => exact lyX3_0
  | 1, _ => exact lyX3_1
  | 2, _ => exact lyX3_2
  | 3, _ => exact lyX3_3
  | 4, _ => exact lyX3_4
  | k + 5, hk => omega
theorem lyX4_0 : u_lay RX4 TX4 0 ∈ wsG := inT1 (i := 79) rfl rfl
theorem lyX4_1 : u_lay RX4 TX4 1 ∈ wsG := inT1 (i := 81) rfl rfl
theorem inX4 : ∀ w ∈ u_ws RX4 TX4 2, w ∈ wsG := fun w h => by
  obtain ⟨k, hk, rfl⟩ := List.mem_map.mp h
  have hk := List.mem_range.mp hk
  match k, hk with
  | 0, _ => exact lyX4_0
  | 1, _ => exact lyX4_1
  | k + 2, hk => omega
theorem lyX5_0 : u_lay RX5 TX5 0 ∈ wsG := inT3 (i := 60) rfl rfl
theorem lyX5_1 : u_lay RX5 TX5 1 ∈ wsG := inT3 (i := 62) rfl rfl
theorem lyX5_2 : u_lay RX5 TX5 2 ∈ wsG := inT3 (i := 64) rfl rfl
theorem lyX5_3 : u_lay RX5 TX5 3 ∈ wsG := inT3 (i := 66) rfl rfl
theorem lyX5_4 : u_lay RX5 TX5 4 ∈ wsG := inT3 (i := 68) rfl rfl
theorem inX5 : ∀ w ∈ u_ws RX5 TX5 5, w ∈ wsG := fun w h => by
  obtain ⟨k, hk, rfl⟩ := List.mem_map.mp h
  have hk := List.mem_range.mp hk
  match k, hk with
  | 0, _ => exact lyX5_0
  | 1, _ => exact lyX5_1
  | 2, _ => exact lyX5_2
  | 3, _ => exact lyX5_3
  | 4, _ => exact lyX5_4
  | k + 5, hk => omega
theorem lyX6_0 : u_lay RX6 TX6 0 ∈ wsG := inT1 (i := 122) rfl rfl
theorem lyX6_1 : u_lay RX6 TX6 1 ∈ wsG := inT1 (i := 124) rfl rfl
theorem inX6 : ∀ w ∈ u_ws RX6 TX6 2, w ∈ wsG := fun w h => by
  obtain ⟨k, hk, rfl⟩ := List.mem_map.mp h
  have hk := List.mem_range.mp hk
  match k, hk with
  | 0, _ => exact lyX6_0
  | 1, _ => exact lyX6_1
  | k + 2, hk => omega
theorem lyX7_0 : u_lay RX7 TX7 0 ∈ wsG := inT1 (i := 134) rfl rfl
theorem lyX7_1 : u_lay RX7 TX7 1 ∈ wsG := inT1 (i := 136) rfl rfl
theorem lyX7_2 : u_lay RX7 TX7 2 ∈ wsG := inT1 (i := 138) rfl rfl
theorem lyX7_3 : u_lay RX7 TX7 3 ∈ wsG := inT1 (i := 140) rfl rfl
theorem lyX7_4 : u_lay RX7 TX7 4 ∈ wsG := inT1 (i := 142) rfl rfl
theorem lyX7_5 : u_lay RX7 TX7 5 ∈ wsG := inT1 (i := 144) rfl rfl
theorem lyX7_6 : u_lay RX7 TX7 6 ∈ wsG := inT1 (i := 146) rfl rfl
theorem inX7 : ∀ w ∈ u_ws RX7 TX7 7, w ∈ wsG := fun w h => by
  obtain ⟨k, hk, rfl⟩ := List.mem_map.mp h
  have hk := List.mem_range.mp hk
  match k, hk with
  | 0, _ => exact lyX7_0
  | 1, _ => exact lyX7_1
  | 2, _ => exact lyX7_2
  | 3, _ => exact lyX7_3
  | 4, _ => exact lyX7_4
  | 5, _ => exact lyX7_5
  | 6, _ => exact lyX7_6
  | k + 7, hk => omega
theorem lyX8_0 : u_lay RX8 TX8 0 ∈ wsG := inT3 (i := 187) rfl rfl
theorem lyX8_1 : u_lay RX8 TX8 1 ∈ wsG := inT3 (i := 189) rfl rfl
theorem lyX8_2 : u_lay RX8 TX8 2 ∈ wsG := inT3 (i := 191) rfl rfl
theorem lyX8_3 : u_lay RX8 TX8 3 ∈ wsG := inT3 (i := 193) rfl rfl
theorem lyX8_4 : u_lay RX8 TX8 4 ∈ wsG := inT3 (i := 195) rfl rfl
theorem lyX8_5 : u_lay RX8 TX8 5 ∈ wsG := inT3 (i := 197) rfl rfl
theorem lyX8_6 : u_lay RX8 TX8 6 ∈ wsG := inT3 (i := 199) rfl rfl
theorem lyX8_7 : u_lay RX8 TX8 7 ∈ wsG := inT3 (i := 201) rfl rfl
theorem lyX8_8 : u_lay RX8 TX8 8 ∈ wsG := inT3 (i := 203) rfl rfl
theorem lyX8_9 : u_lay RX8 TX8 9 ∈ wsG := inT3 (i := 205) rfl rfl
theorem lyX8_10 : u_lay RX8 TX8 10 ∈ wsG := inT3 (i := 207) rfl rfl
theorem lyX8_11 : u_lay RX8 TX8 11 ∈ wsG := inT3 (i := 209) rfl rfl
theorem lyX8_12 : u_lay RX8 TX8 12 ∈ wsG := inT3 (i := 211) rfl rfl
theorem lyX8_13 : u_lay RX8 TX8 13 ∈ wsG := inT3 (i := 213) rfl rfl
theorem lyX8_14 : u_lay RX8 TX8 14 ∈ wsG := inT3 (i := 215) rfl rfl
theorem lyX8_15 : u_lay RX8 TX8 15 ∈ wsG := inT3 (i := 217) rfl rfl
theorem lyX8_16 : u_lay RX8 TX8 16 ∈ wsG := inT3 (i := 219) rfl rfl
theorem lyX8_17 : u_lay RX8 TX8 17 ∈ wsG := inT3 (i := 221) rfl rfl
theorem lyX8_18 : u_lay RX8 TX8 18 ∈ wsG := inT3 (i := 223) rfl rfl
theorem lyX8_19 : u_lay RX8 TX8 19 ∈ wsG := inT3 (i := 225) rfl rfl
theorem lyX8_20 : u_lay RX8 TX8 20 ∈ wsG := inT3 (i := 227) rfl rfl
theorem lyX8_21 : u_lay RX8 TX8 21 ∈ wsG := inT3 (i := 229) rfl rfl
theorem lyX8_22 : u_lay RX8 TX8 22 ∈ wsG := inT3 (i := 231) rfl rfl
theorem lyX8_23 : u_lay RX8 TX8 23 ∈ wsG := inT3 (i := 233) rfl rfl
theorem lyX8_24 : u_lay RX8 TX8 24 ∈ wsG := inT3 (i := 235) rfl rfl
theorem lyX8_25 : u_lay RX8 TX8 25 ∈ wsG := inT3 (i := 237) rfl rfl
theorem lyX8_26 : u_lay RX8 TX8 26 ∈ wsG := inT3 (i := 239) rfl rfl
theorem lyX8_27 : u_lay RX8 TX8 27 ∈ wsG := inT4 (i := 1) rfl rfl
theorem lyX8_28 : u_lay RX8 TX8 28 ∈ wsG := inT4 (i := 3) rfl rfl
theorem lyX8_29 : u_lay RX8 TX8 29 ∈ wsG := inT4 (i := 5) rfl rfl
theorem lyX8_30 : u_lay RX8 TX8 30 ∈ wsG := inT4 (i := 7) rfl rfl
theorem lyX8_31 : u_lay RX8 TX8 31 ∈ wsG := inT4 (i := 9) rfl rfl
theorem lyX8_32 : u_lay RX8 TX8 32 ∈ wsG := inT4 (i := 11) rfl rfl
theorem lyX8_33 : u_lay RX8 TX8 33 ∈ wsG := inT4 (i := 13) rfl rfl
theorem lyX8_34 : u_lay RX8 TX8 34 ∈ wsG := inT4 (i := 15) rfl rfl
theorem lyX8_35 : u_lay RX8 TX8 35 ∈ wsG := inT4 (i := 17) rfl rfl
theorem lyX8_36 : u_lay RX8 TX8 36 ∈ wsG := inT4 (i := 19) rfl rfl
theorem inX8 : ∀ w ∈ u_ws RX8 TX8 37, w ∈ wsG := fun w h => by
  obtain ⟨k, hk, rfl⟩ := List.mem_map.mp h
  have hk := List.mem_range.mp hk
  match k, hk with
  | 0, _ => exact lyX8_0
  | 1, _ => exact lyX8_1
  | 2, _ => exact lyX8_2
  | 3, _ => exact lyX8_3
  | 4, _ => exact lyX8_4
  | 5, _ => exact lyX8_5
  | 6, _ => exact lyX8_6
  | 7, _ => exact lyX8_7
  | 8, _ => exact lyX8_8
  | 9, _ => exact lyX8_9
  | 10, _ => exact lyX8_10
  | 11, _ => exact lyX8_11
  | 12, _ => exact lyX8_12
  | 13, _ => exact lyX8_13
  | 14, _ => exact lyX8_14
  | 15, _ => exact lyX8_15
  | 16, _ => exact lyX8_16
  | 17, _ => exact lyX8_17
  | 18, _ => exact lyX8_18
  | 19, _ => exact lyX8_19
  | 20, _ => exact lyX8_20
  | 21, _ => exact lyX8_21
  | 22, _ => exact lyX8_22
  | 23, _ => exact lyX8_23
  | 24, _ => exact lyX8_24
  | 25, _ => exact lyX8_25
  | 26, _ => exact lyX8_26
  | 27, _ => exact lyX8_27
  | 28, _ => exact lyX8_28
  | 29, _ => exact lyX8_29
  | 30, _ => exact lyX8_30
  | 31, _ => exact lyX8_31
  | 32, _ => exact lyX8_32
  | 33, _ => exact lyX8_33
  | 34, _ => exact lyX8_34
  | 35, _ => exact lyX8_35
  | 36, _ => exact lyX8_36
  | k + 37, hk => omega
theorem ini_L : Cond.initialized RL ∈ wsG := inT1 (i := 0) rfl rfl
theorem ini_X7 : Cond.initialized RX7 ∈ wsG := inT1 (i := 1) rfl rfl
theorem ini_X0 : Cond.initialized RX0 ∈ wsG := inT1 (i := 2) rfl rfl
theorem ini_X4 : Cond.initialized RX4 ∈ wsG := inT1 (i := 3) rfl rfl
theorem ini_X1 : Cond.initialized RX1 ∈ wsG := inT1 (i := 4) rfl rfl
theorem ini_X6 : Cond.initialized RX6 ∈ wsG := inT1 (i := 5) rfl rfl
theorem ini_X8 : Cond.initialized RX8 ∈ wsG := inT1 (i := 6) rfl rfl
theorem ini_X2 : Cond.initialized RX2 ∈ wsG := inT1 (i := 7) rfl rfl
theorem ini_J9 : Cond.initialized RJ9 ∈ wsG := inT1 (i := 8) rfl rfl
theorem ini_J6 : Cond.initialized RJ6 ∈ wsG := inT1 (i := 9) rfl rfl
theorem ini_J7 : Cond.initialized RJ7 ∈ wsG := inT1 (i := 10) rfl rfl
theorem ini_X3 : Cond.initialized RX3 ∈ wsG := inT1 (i := 11) rfl rfl
theorem ini_X5 : Cond.initialized RX5 ∈ wsG := inT1 (i := 12) rfl rfl
theorem cl_L_7 : Cond.classLink RL 7 RX7 ∈ wsG := inT1 (i := 13) rfl rfl
theorem ins_X7 : Cond.instantiable RX7 7 ∈ wsG := inT1 (i := 14) rfl rfl
theorem ml_L_9 : Cond.methodLink RL 9 yX7_init ∈ wsG := inT1 (i := 15) rfl rfl
theorem ml_X7_1 : Cond.methodLink RX7 1 objectInit ∈ wsG := inT1 (i := 18) rfl rfl
theorem cl_X7_9 : Cond.classLink RX7 9 RX2 ∈ wsG := inT1 (i := 21) rfl rfl
theorem cl_X7_22 : Cond.classLink RX7 22 RX0 ∈ wsG := inT1 (i := 23) rfl rfl
theorem ins_X0 : Cond.instantiable RX0 12 ∈ wsG := inT1 (i := 24) rfl rfl
theorem ml_X7_24 : Cond.methodLink RX7 24 yX0_init ∈ wsG := inT1 (i := 25) rfl rfl
theorem ml_X0_5 : Cond.methodLink RX0 5 objectInit ∈ wsG := inT1 (i := 28) rfl rfl
theorem ac_int : Cond.arrayClass .int ∈ wsG := inT1 (i := 68) rfl rfl
theorem cl_X7_29 : Cond.classLink RX7 29 RX4 ∈ wsG := inT1 (i := 69) rfl rfl
theorem ins_X4 : Cond.instantiable RX4 2 ∈ wsG := inT1 (i := 70) rfl rfl
theorem ml_X7_31 : Cond.methodLink RX7 31 yX4_init ∈ wsG := inT1 (i := 71) rfl rfl
theorem ml_X4_3 : Cond.methodLink RX4 3 objectInit ∈ wsG := inT1 (i := 74) rfl rfl
theorem cl_X4_11 : Cond.classLink RX4 11 RX3 ∈ wsG := inT1 (i := 75) rfl rfl
theorem cl_X7_36 : Cond.classLink RX7 36 RX1 ∈ wsG := inT1 (i := 84) rfl rfl
theorem ins_X1 : Cond.instantiable RX1 6 ∈ wsG := inT1 (i := 85) rfl rfl
theorem ml_X7_38 : Cond.methodLink RX7 38 yX1_init ∈ wsG := inT1 (i := 86) rfl rfl
theorem ml_X1_5 : Cond.methodLink RX1 5 objectInit ∈ wsG := inT1 (i := 89) rfl rfl
theorem cl_X7_43 : Cond.classLink RX7 43 RX6 ∈ wsG := inT1 (i := 111) rfl rfl
theorem ins_X6 : Cond.instantiable RX6 2 ∈ wsG := inT1 (i := 112) rfl rfl
theorem ml_X7_45 : Cond.methodLink RX7 45 yX6_init ∈ wsG := inT1 (i := 113) rfl rfl
theorem ml_X6_3 : Cond.methodLink RX6 3 objectInit ∈ wsG := inT1 (i := 116) rfl rfl
theorem cl_X6_11 : Cond.classLink RX6 11 RX5 ∈ wsG := inT1 (i := 117) rfl rfl
theorem ml_L_13 : Cond.methodLink RL 13 yX7_side ∈ wsG := inT1 (i := 149) rfl rfl
theorem ml_X7_50 : Cond.methodLink RX7 50 yX7_within ∈ wsG := inT1 (i := 153) rfl rfl
theorem ins_X2 : Cond.instantiable RX2 11 ∈ wsG := inT1 (i := 156) rfl rfl
theorem ml_X7_54 : Cond.methodLink RX7 54 yX2_init ∈ wsG := inT1 (i := 157) rfl rfl
theorem ml_X2_3 : Cond.methodLink RX2 3 objectInit ∈ wsG := inT1 (i := 160) rfl rfl
theorem ml_L_18 : Cond.methodLink RL 18 yX7_hours ∈ wsG := inT1 (i := 208) rfl rfl
theorem ml_X7_57 : Cond.methodLink RX7 57 yX7_isSide ∈ wsG := inT1 (i := 212) rfl rfl
theorem ml_L_23 : Cond.methodLink RL 23 yX7_told ∈ wsG := inT1 (i := 216) rfl rfl
theorem ml_L_28 : Cond.methodLink RL 28 yX7_read ∈ wsG := inT1 (i := 220) rfl rfl
theorem ml_X7_88 : Cond.methodLink RX7 88 yX2_lose ∈ wsG := inT1 (i := 224) rfl rfl
theorem ml_X2_45 : Cond.methodLink RX2 45 Lib.Math.max.name ∈ wsG := inT1 (i := 228) rfl rfl
theorem ml_L_33 : Cond.methodLink RL 33 yX7_pass ∈ wsG := inT1 (i := 231) rfl rfl
theorem ml_L_38 : Cond.methodLink RL 38 yX7_best ∈ wsG := inT1 (i := 235) rfl rfl
theorem ml_X7_92 : Cond.methodLink RX7 92 yX7_planRefusal ∈ wsG := inT1 (i := 239) rfl rfl
theorem ml_X7_121 : Cond.methodLink RX7 121 yX7_isSetOfSides ∈ wsG := inT2 (i := 3) rfl rfl
theorem ml_X7_108 : Cond.methodLink RX7 108 yJ6_bitCount_0f7a4 ∈ wsG := inT2 (i := 7) rfl rfl
theorem ct_J6_265 : Cond.constant RJ6 265 (1431655765) ∈ wsG := inT2 (i := 10) rfl rfl
theorem ct_J6_266 : Cond.constant RJ6 266 (858993459) ∈ wsG := inT2 (i := 11) rfl rfl
theorem ct_J6_267 : Cond.constant RJ6 267 (252645135) ∈ wsG := inT2 (i := 12) rfl rfl
theorem ml_X7_96 : Cond.methodLink RX7 96 yX7_takeIntoPlan ∈ wsG := inT2 (i := 13) rfl rfl
theorem ml_X7_124 : Cond.methodLink RX7 124 yX0_begin ∈ wsG := inT2 (i := 17) rfl rfl
theorem ml_X0_51 : Cond.methodLink RX0 51 Lib.Math.min.name ∈ wsG := inT2 (i := 21) rfl rfl
theorem ml_X7_104 : Cond.methodLink RX7 104 yX7_holds ∈ wsG := inT2 (i := 24) rfl rfl
theorem ml_X7_127 : Cond.methodLink RX7 127 yX0_take ∈ wsG := inT2 (i := 27) rfl rfl
theorem ml_X0_63 : Cond.methodLink RX0 63 yX2_savedIn ∈ wsG := inT2 (i := 31) rfl rfl
theorem ml_X7_100 : Cond.methodLink RX7 100 yX0_mostWith ∈ wsG := inT2 (i := 35) rfl rfl
theorem ml_X0_67 : Cond.methodLink RX0 67 yJ7_fill_53178 ∈ wsG := inT2 (i := 39) rfl rfl
theorem ml_X0_73 : Cond.methodLink RX0 73 yX0_mostFrom ∈ wsG := inT2 (i := 42) rfl rfl
theorem ml_X0_86 : Cond.methodLink RX0 86 yX0_addUp ∈ wsG := inT2 (i := 46) rfl rfl
theorem ml_X0_90 : Cond.methodLink RX0 90 yX0_savedTogether ∈ wsG := inT2 (i := 50) rfl rfl
theorem ml_X0_97 : Cond.methodLink RX0 97 Lib.Math.max.name ∈ wsG := inT2 (i := 54) rfl rfl
theorem ml_X0_93 : Cond.methodLink RX0 93 yX0_joinYear ∈ wsG := inT2 (i := 55) rfl rfl
theorem ml_L_42 : Cond.methodLink RL 42 yX7_does ∈ wsG := inT2 (i := 59) rfl rfl
theorem ml_X7_113 : Cond.methodLink RX7 113 yX0_optionAt ∈ wsG := inT2 (i := 63) rfl rfl
theorem ml_X0_77 : Cond.methodLink RX0 77 yX0_mostWith ∈ wsG := inT2 (i := 67) rfl rfl
theorem ml_X0_80 : Cond.methodLink RX0 80 yX0_firstOption ∈ wsG := inT2 (i := 68) rfl rfl
theorem ml_X0_83 : Cond.methodLink RX0 83 yX0_hoursFor ∈ wsG := inT2 (i := 72) rfl rfl
theorem ml_L_46 : Cond.methodLink RL 46 yX7_needed ∈ wsG := inT2 (i := 76) rfl rfl
theorem ct_X7_117 : Cond.constant RX7 117 (600000) ∈ wsG := inT2 (i := 80) rfl rfl
theorem ml_X7_118 : Cond.methodLink RX7 118 yX0_leastHours ∈ wsG := inT2 (i := 81) rfl rfl
theorem ml_L_50 : Cond.methodLink RL 50 yX7_sign ∈ wsG := inT2 (i := 85) rfl rfl
theorem ml_X7_131 : Cond.methodLink RX7 131 yX4_isFull ∈ wsG := inT2 (i := 89) rfl rfl
theorem cl_X7_135 : Cond.classLink RX7 135 RX3 ∈ wsG := inT2 (i := 93) rfl rfl
theorem ins_X3 : Cond.instantiable RX3 5 ∈ wsG := inT2 (i := 94) rfl rfl
theorem ml_X7_137 : Cond.methodLink RX7 137 yX3_init ∈ wsG := inT2 (i := 95) rfl rfl
theorem ml_X3_1 : Cond.methodLink RX3 1 objectInit ∈ wsG := inT2 (i := 98) rfl rfl
theorem ml_X7_138 : Cond.methodLink RX7 138 yX4_add ∈ wsG := inT2 (i := 119) rfl rfl
theorem ml_L_54 : Cond.methodLink RL 54 yX7_drop ∈ wsG := inT2 (i := 123) rfl rfl
theorem ml_X7_142 : Cond.methodLink RX7 142 yX4_has ∈ wsG := inT2 (i := 127) rfl rfl
theorem ml_X7_145 : Cond.methodLink RX7 145 yX4_takeOut ∈ wsG := inT2 (i := 131) rfl rfl
theorem ml_L_58 : Cond.methodLink RL 58 yX7_speed ∈ wsG := inT2 (i := 135) rfl rfl
theorem ml_X7_148 : Cond.methodLink RX7 148 yX4_leastHeaviest ∈ wsG := inT2 (i := 139) rfl rfl
theorem ml_X4_25 : Cond.methodLink RX4 25 yX3_isOf ∈ wsG := inT2 (i := 143) rfl rfl
theorem ml_X4_38 : Cond.methodLink RX4 38 yX4_weightAt ∈ wsG := inT2 (i := 147) rfl rfl
theorem ml_L_62 : Cond.methodLink RL 62 yX7_span ∈ wsG := inT2 (i := 151) rfl rfl
theorem ml_X7_151 : Cond.methodLink RX7 151 yX4_lastHeaviest ∈ wsG := inT2 (i := 155) rfl rfl
theorem ml_X4_42 : Cond.methodLink RX4 42 yX4_leastHeaviest ∈ wsG := inT2 (i := 159) rfl rfl
theorem ml_L_66 : Cond.methodLink RL 66 yX7_weighs ∈ wsG := inT2 (i := 160) rfl rfl
theorem ml_X7_154 : Cond.methodLink RX7 154 yX4_weightAt ∈ wsG := inT2 (i := 164) rfl rfl
theorem ml_L_70 : Cond.methodLink RL 70 yX7_quarrels ∈ wsG := inT2 (i := 165) rfl rfl
theorem ml_X7_157 : Cond.methodLink RX7 157 yX4_pairsApart ∈ wsG := inT2 (i := 169) rfl rfl
theorem ml_X4_46 : Cond.methodLink RX4 46 yX3_isApartFrom ∈ wsG := inT2 (i := 173) rfl rfl
theorem ml_L_74 : Cond.methodLink RL 74 yX7_piece ∈ wsG := inT2 (i := 177) rfl rfl
theorem ml_X7_160 : Cond.methodLink RX7 160 yX1_isFull ∈ wsG := inT2 (i := 181) rfl rfl
theorem ml_X7_161 : Cond.methodLink RX7 161 yX1_add ∈ wsG := inT2 (i := 185) rfl rfl
theorem ml_L_78 : Cond.methodLink RL 78 yX7_sweep ∈ wsG := inT2 (i := 189) rfl rfl
theorem ml_X7_163 : Cond.methodLink RX7 163 yX1_clear ∈ wsG := inT2 (i := 193) rfl rfl
theorem ml_L_83 : Cond.methodLink RL 83 yX7_tolerance ∈ wsG := inT2 (i := 197) rfl rfl
theorem ml_L_87 : Cond.methodLink RL 87 yX7_rows ∈ wsG := inT2 (i := 201) rfl rfl
theorem ml_X7_170 : Cond.methodLink RX7 170 yX1_countRows ∈ wsG := inT2 (i := 205) rfl rfl
theorem ml_X1_31 : Cond.methodLink RX1 31 yX1_weighAll ∈ wsG := inT2 (i := 209) rfl rfl
theorem ml_X1_56 : Cond.methodLink RX1 56 yX1_weigh ∈ wsG := inT2 (i := 214) rfl rfl
theorem ml_X1_45 : Cond.methodLink RX1 45 yX1_canFollow ∈ wsG := inT2 (i := 218) rfl rfl
theorem ml_X1_49 : Cond.methodLink RX1 49 yX1_gap ∈ wsG := inT2 (i := 222) rfl rfl
theorem ml_X1_60 : Cond.methodLink RX1 60 Lib.Math.abs.name ∈ wsG := inT2 (i := 226) rfl rfl
theorem ml_X1_34 : Cond.methodLink RX1 34 yX1_cell ∈ wsG := inT2 (i := 229) rfl rfl
theorem ml_L_91 : Cond.methodLink RL 91 yX7_misfit ∈ wsG := inT2 (i := 232) rfl rfl
theorem ml_X7_173 : Cond.methodLink RX7 173 yX1_leastMisfit ∈ wsG := inT2 (i := 236) rfl rfl
theorem ml_X1_38 : Cond.methodLink RX1 38 yX1_firstPiece ∈ wsG := inT3 (i := 0) rfl rfl
theorem ml_L_95 : Cond.methodLink RL 95 yX7_inRow ∈ wsG := inT3 (i := 4) rfl rfl
theorem ml_X7_176 : Cond.methodLink RX7 176 yX1_pieceAt ∈ wsG := inT3 (i := 8) rfl rfl
theorem ml_X1_42 : Cond.methodLink RX1 42 yX1_nextPiece ∈ wsG := inT3 (i := 12) rfl rfl
theorem ml_L_99 : Cond.methodLink RL 99 yX7_sung ∈ wsG := inT3 (i := 16) rfl rfl
theorem ml_X7_179 : Cond.methodLink RX7 179 yX7_isSong ∈ wsG := inT3 (i := 20) rfl rfl
theorem ml_L_103 : Cond.methodLink RL 103 yX7_text ∈ wsG := inT3 (i := 23) rfl rfl
theorem ml_X7_188 : Cond.methodLink RX7 188 yX7_isHearer ∈ wsG := inT3 (i := 27) rfl rfl
theorem ml_X7_191 : Cond.methodLink RX7 191 yX7_isFamily ∈ wsG := inT3 (i := 30) rfl rfl
theorem ml_X7_194 : Cond.methodLink RX7 194 yX7_isDay ∈ wsG := inT3 (i := 33) rfl rfl
theorem ml_X7_197 : Cond.methodLink RX7 197 yX6_isFull ∈ wsG := inT3 (i := 36) rfl rfl
theorem ml_X7_198 : Cond.methodLink RX7 198 yX7_askedBy ∈ wsG := inT3 (i := 40) rfl rfl
theorem ml_X7_201 : Cond.methodLink RX7 201 yX6_add ∈ wsG := inT3 (i := 43) rfl rfl
theorem ins_X5 : Cond.instantiable RX5 5 ∈ wsG := inT3 (i := 47) rfl rfl
theorem ml_X6_24 : Cond.methodLink RX6 24 yX5_init ∈ wsG := inT3 (i := 48) rfl rfl
theorem ml_X5_3 : Cond.methodLink RX5 3 objectInit ∈ wsG := inT3 (i := 51) rfl rfl
theorem ml_L_108 : Cond.methodLink RL 108 yX7_counts ∈ wsG := inT3 (i := 71) rfl rfl
theorem ml_X7_204 : Cond.methodLink RX7 204 yX6_latestFor ∈ wsG := inT3 (i := 75) rfl rfl
theorem ml_X6_30 : Cond.methodLink RX6 30 yX5_isFor ∈ wsG := inT3 (i := 79) rfl rfl
theorem ml_L_112 : Cond.methodLink RL 112 yX7_may ∈ wsG := inT3 (i := 83) rfl rfl
theorem ml_X7_208 : Cond.methodLink RX7 208 yX6_letOn ∈ wsG := inT3 (i := 87) rfl rfl
theorem ml_X6_37 : Cond.methodLink RX6 37 yX5_letAfter ∈ wsG := inT3 (i := 91) rfl rfl
theorem ml_X7_211 : Cond.methodLink RX7 211 yX2_isLetBy ∈ wsG := inT3 (i := 95) rfl rfl
theorem ml_X2_51 : Cond.methodLink RX2 51 yX2_asked ∈ wsG := inT3 (i := 99) rfl rfl
theorem ml_L_116 : Cond.methodLink RL 116 yX7_heard ∈ wsG := inT3 (i := 103) rfl rfl
theorem ml_L_120 : Cond.methodLink RL 120 yX7_days ∈ wsG := inT3 (i := 107) rfl rfl
theorem ml_X7_214 : Cond.methodLink RX7 214 yX2_asked ∈ wsG := inT3 (i := 111) rfl rfl
theorem ml_X7_217 : Cond.methodLink RX7 217 yX6_daysThatLet ∈ wsG := inT3 (i := 112) rfl rfl
theorem ml_L_124 : Cond.methodLink RL 124 yX7_copy ∈ wsG := inT3 (i := 116) rfl rfl
theorem ml_X7_220 : Cond.methodLink RX7 220 yX7_stepsUp ∈ wsG := inT3 (i := 120) rfl rfl
theorem ml_L_128 : Cond.methodLink RL 128 yX7_copies ∈ wsG := inT3 (i := 124) rfl rfl
theorem ml_L_132 : Cond.methodLink RL 132 yX7_clearest ∈ wsG := inT3 (i := 128) rfl rfl
theorem ml_L_136 : Cond.methodLink RL 136 yX7_total ∈ wsG := inT3 (i := 132) rfl rfl
theorem ml_X7_223 : Cond.methodLink RX7 223 yX4_countLive ∈ wsG := inT3 (i := 136) rfl rfl
theorem ml_X7_230 : Cond.methodLink RX7 230 yX7_allSound ∈ wsG := inT3 (i := 140) rfl rfl
theorem cl_L_10 : Cond.classLink RL 10 RX8 ∈ wsG := inT3 (i := 144) rfl rfl
theorem ins_X8 : Cond.instantiable RX8 37 ∈ wsG := inT3 (i := 145) rfl rfl
theorem ml_L_12 : Cond.methodLink RL 12 yX8_init ∈ wsG := inT3 (i := 146) rfl rfl
theorem ml_X8_1 : Cond.methodLink RX8 1 objectInit ∈ wsG := inT3 (i := 149) rfl rfl
theorem ac_boolean : Cond.arrayClass .boolean ∈ wsG := inT4 (i := 22) rfl rfl
theorem ml_L_17 : Cond.methodLink RL 17 yX8_side ∈ wsG := inT4 (i := 23) rfl rfl
theorem ct_X8_106 : Cond.constantLong RX8 106 (1000) ∈ wsG := inT4 (i := 27) rfl rfl
theorem ml_X8_102 : Cond.methodLink RX8 102 yX8_in ∈ wsG := inT4 (i := 28) rfl rfl
theorem ct_X8_108 : Cond.constantLong RX8 108 (100) ∈ wsG := inT4 (i := 31) rfl rfl
theorem ml_L_22 : Cond.methodLink RL 22 yX8_hours ∈ wsG := inT4 (i := 32) rfl rfl
theorem ml_X8_110 : Cond.methodLink RX8 110 yX8_noSide ∈ wsG := inT4 (i := 36) rfl rfl
theorem ml_L_27 : Cond.methodLink RL 27 yX8_told ∈ wsG := inT4 (i := 40) rfl rfl
theorem ml_L_32 : Cond.methodLink RL 32 yX8_read ∈ wsG := inT4 (i := 44) rfl rfl
theorem ml_X8_114 : Cond.methodLink RX8 114 yX8_atLeastNone ∈ wsG := inT4 (i := 48) rfl rfl
theorem ml_L_37 : Cond.methodLink RL 37 yX8_pass ∈ wsG := inT4 (i := 51) rfl rfl
theorem ml_L_41 : Cond.methodLink RL 41 yX8_best ∈ wsG := inT4 (i := 55) rfl rfl
theorem ml_X8_149 : Cond.methodLink RX8 149 yX8_noSet ∈ wsG := inT4 (i := 59) rfl rfl
theorem ml_X8_152 : Cond.methodLink RX8 152 yX8_badPlan ∈ wsG := inT4 (i := 63) rfl rfl
theorem ml_X8_142 : Cond.methodLink RX8 142 yX8_bits ∈ wsG := inT4 (i := 66) rfl rfl
theorem ct_X8_145 : Cond.constantLong RX8 145 (3) ∈ wsG := inT4 (i := 69) rfl rfl
theorem ct_X8_147 : Cond.constantLong RX8 147 (3000) ∈ wsG := inT4 (i := 70) rfl rfl
theorem ml_X8_156 : Cond.methodLink RX8 156 yX8_plan ∈ wsG := inT4 (i := 71) rfl rfl
theorem ml_X8_127 : Cond.methodLink RX8 127 yX8_gather ∈ wsG := inT4 (i := 75) rfl rfl
theorem ml_X8_131 : Cond.methodLink RX8 131 yX8_codes ∈ wsG := inT4 (i := 79) rfl rfl
theorem ml_X8_134 : Cond.methodLink RX8 134 yX8_weigh ∈ wsG := inT4 (i := 83) rfl rfl
theorem ml_X8_138 : Cond.methodLink RX8 138 yX8_most ∈ wsG := inT4 (i := 87) rfl rfl
theorem ml_L_45 : Cond.methodLink RL 45 yX8_does ∈ wsG := inT4 (i := 91) rfl rfl
theorem ml_L_49 : Cond.methodLink RL 49 yX8_needed ∈ wsG := inT4 (i := 95) rfl rfl
theorem ct_X8_160 : Cond.constantLong RX8 160 (600000) ∈ wsG := inT4 (i := 99) rfl rfl
theorem ml_L_53 : Cond.methodLink RL 53 yX8_sign ∈ wsG := inT4 (i := 100) rfl rfl
theorem ct_X8_162 : Cond.constantLong RX8 162 (9) ∈ wsG := inT4 (i := 104) rfl rfl
theorem ml_L_57 : Cond.methodLink RL 57 yX8_drop ∈ wsG := inT4 (i := 105) rfl rfl
theorem ml_L_61 : Cond.methodLink RL 61 yX8_speed ∈ wsG := inT4 (i := 109) rfl rfl
theorem ml_X8_175 : Cond.methodLink RX8 175 yX8_speedOf ∈ wsG := inT4 (i := 113) rfl rfl
theorem ml_X8_167 : Cond.methodLink RX8 167 yX8_isOf ∈ wsG := inT4 (i := 117) rfl rfl
theorem ml_X8_171 : Cond.methodLink RX8 171 yX8_weighsOf ∈ wsG := inT4 (i := 121) rfl rfl
theorem ml_L_65 : Cond.methodLink RL 65 yX8_span ∈ wsG := inT4 (i := 125) rfl rfl
theorem ml_L_69 : Cond.methodLink RL 69 yX8_weighs ∈ wsG := inT4 (i := 129) rfl rfl
theorem ct_X8_178 : Cond.constantLong RX8 178 (30000) ∈ wsG := inT4 (i := 133) rfl rfl
theorem ml_L_73 : Cond.methodLink RL 73 yX8_quarrels ∈ wsG := inT4 (i := 134) rfl rfl
theorem ml_L_77 : Cond.methodLink RL 77 yX8_piece ∈ wsG := inT4 (i := 138) rfl rfl
theorem ct_X8_180 : Cond.constantLong RX8 180 (99) ∈ wsG := inT4 (i := 142) rfl rfl
theorem ml_L_82 : Cond.methodLink RL 82 yX8_sweep ∈ wsG := inT4 (i := 143) rfl rfl
theorem ml_L_86 : Cond.methodLink RL 86 yX8_tolerance ∈ wsG := inT4 (i := 147) rfl rfl
theorem ml_L_90 : Cond.methodLink RL 90 yX8_rows ∈ wsG := inT4 (i := 151) rfl rfl
theorem ml_X8_192 : Cond.methodLink RX8 192 yX8_join ∈ wsG := inT4 (i := 155) rfl rfl
theorem ct_X8_188 : Cond.constant RX8 188 (1000000) ∈ wsG := inT4 (i := 159) rfl rfl
theorem ml_X8_189 : Cond.methodLink RX8 189 yX8_apart ∈ wsG := inT4 (i := 160) rfl rfl
theorem ml_X8_195 : Cond.methodLink RX8 195 yX8_others ∈ wsG := inT4 (i := 164) rfl rfl
theorem ml_L_94 : Cond.methodLink RL 94 yX8_misfit ∈ wsG := inT4 (i := 168) rfl rfl
theorem ml_X8_198 : Cond.methodLink RX8 198 yX8_leastOf ∈ wsG := inT4 (i := 172) rfl rfl
theorem ml_L_98 : Cond.methodLink RL 98 yX8_inRow ∈ wsG := inT4 (i := 176) rfl rfl
theorem ml_L_102 : Cond.methodLink RL 102 yX8_sung ∈ wsG := inT4 (i := 180) rfl rfl
theorem ct_X8_201 : Cond.constantLong RX8 201 (255) ∈ wsG := inT4 (i := 184) rfl rfl
theorem ml_L_107 : Cond.methodLink RL 107 yX8_text ∈ wsG := inT4 (i := 185) rfl rfl
theorem ct_X8_205 : Cond.constantLong RX8 205 (7) ∈ wsG := inT4 (i := 189) rfl rfl
theorem ct_X8_207 : Cond.constantLong RX8 207 (5) ∈ wsG := inT4 (i := 190) rfl rfl
theorem ml_X8_209 : Cond.methodLink RX8 209 yX8_noDay ∈ wsG := inT4 (i := 191) rfl rfl
theorem ct_X8_203 : Cond.constantLong RX8 203 (9999) ∈ wsG := inT4 (i := 194) rfl rfl
theorem ml_L_111 : Cond.methodLink RL 111 yX8_counts ∈ wsG := inT4 (i := 195) rfl rfl
theorem ml_X8_215 : Cond.methodLink RX8 215 yX8_countsOf ∈ wsG := inT4 (i := 199) rfl rfl
theorem ml_L_115 : Cond.methodLink RL 115 yX8_may ∈ wsG := inT4 (i := 203) rfl rfl
theorem ml_X8_219 : Cond.methodLink RX8 219 yX8_mayHear ∈ wsG := inT4 (i := 207) rfl rfl
theorem ml_L_119 : Cond.methodLink RL 119 yX8_heard ∈ wsG := inT4 (i := 211) rfl rfl
theorem ml_X8_222 : Cond.methodLink RX8 222 yX8_heardOf ∈ wsG := inT4 (i := 215) rfl rfl
theorem ml_L_123 : Cond.methodLink RL 123 yX8_days ∈ wsG := inT4 (i := 219) rfl rfl
theorem ml_L_127 : Cond.methodLink RL 127 yX8_copy ∈ wsG := inT4 (i := 223) rfl rfl
theorem ml_X8_225 : Cond.methodLink RX8 225 yX8_stepsTo ∈ wsG := inT4 (i := 227) rfl rfl
theorem ml_L_131 : Cond.methodLink RL 131 yX8_copies ∈ wsG := inT4 (i := 231) rfl rfl
theorem ml_L_135 : Cond.methodLink RL 135 yX8_clearest ∈ wsG := inT4 (i := 235) rfl rfl
theorem ml_L_139 : Cond.methodLink RL 139 yX8_total ∈ wsG := inT4 (i := 239) rfl rfl
theorem co_X7_init : Cond.code yX7_init cX7_init 1 none ∈ wsG := inT1 (i := 17) rfl rfl
theorem im_X7_init : Cond.instanceMethod yX7_init ∈ wsG := inT1 (i := 16) rfl rfl
theorem co_Object : Cond.code objectInit ⟨#[0xb1]⟩ 1 none ∈ wsG := inT1 (i := 20) rfl rfl
theorem im_Object : Cond.instanceMethod objectInit ∈ wsG := inT1 (i := 19) rfl rfl
theorem co_X0_init : Cond.code yX0_init cX0_init 1 none ∈ wsG := inT1 (i := 27) rfl rfl
theorem im_X0_init : Cond.instanceMethod yX0_init ∈ wsG := inT1 (i := 26) rfl rfl
theorem co_X4_init : Cond.code yX4_init cX4_init 1 none ∈ wsG := inT1 (i := 73) rfl rfl
theorem im_X4_init : Cond.instanceMethod yX4_init ∈ wsG := inT1 (i := 72) rfl rfl
theorem co_X1_init : Cond.code yX1_init cX1_init 1 none ∈ wsG := inT1 (i := 88) rfl rfl
theorem im_X1_init : Cond.instanceMethod yX1_init ∈ wsG := inT1 (i := 87) rfl rfl
theorem co_X6_init : Cond.code yX6_init cX6_init 1 none ∈ wsG := inT1 (i := 115) rfl rfl
theorem im_X6_init : Cond.instanceMethod yX6_init ∈ wsG := inT1 (i := 114) rfl rfl
theorem co_X7_side : Cond.code yX7_side cX7_side 6 (some .int) ∈ wsG := inT1 (i := 152) rfl rfl
theorem im_X7_side : Cond.instanceMethod yX7_side ∈ wsG := inT1 (i := 150) rfl rfl
theorem se_X7_side : Cond.selects RX7 yX7_side yX7_side ∈ wsG := inT1 (i := 151) rfl rfl
theorem co_X7_within : Cond.code yX7_within cX7_within 3 (some .boolean) ∈ wsG := inT1 (i := 155) rfl rfl
theorem sm_X7_within : Cond.static yX7_within ∈ wsG := inT1 (i := 154) rfl rfl
theorem co_X2_init : Cond.code yX2_init cX2_init 5 none ∈ wsG := inT1 (i := 159) rfl rfl
theorem im_X2_init : Cond.instanceMethod yX2_init ∈ wsG := inT1 (i := 158) rfl rfl
theorem co_X7_hours : Cond.code yX7_hours cX7_hours 4 (some .int) ∈ wsG := inT1 (i := 211) rfl rfl
theorem im_X7_hours : Cond.instanceMethod yX7_hours ∈ wsG := inT1 (i := 209) rfl rfl
theorem se_X7_hours : Cond.selects RX7 yX7_hours yX7_hours ∈ wsG := inT1 (i := 210) rfl rfl
theorem co_X7_isSide : Cond.code yX7_isSide cX7_isSide 2 (some .boolean) ∈ wsG := inT1 (i := 215) rfl rfl
theorem im_X7_isSide : Cond.instanceMethod yX7_isSide ∈ wsG := inT1 (i := 214) rfl rfl
theorem se_X7_isSide : Cond.selects RX7 yX7_isSide yX7_isSide ∈ wsG := inS (i := 0) rfl rfl
theorem co_X7_told : Cond.code yX7_told cX7_told 4 (some .int) ∈ wsG := inT1 (i := 219) rfl rfl
theorem im_X7_told : Cond.instanceMethod yX7_told ∈ wsG := inT1 (i := 217) rfl rfl
theorem se_X7_told : Cond.selects RX7 yX7_told yX7_told ∈ wsG := inT1 (i := 218) rfl rfl
theorem co_X7_read : Cond.code yX7_read cX7_read 4 (some .int) ∈ wsG := inT1 (i := 223) rfl rfl
theorem im_X7_read : Cond.instanceMethod yX7_read ∈ wsG := inT1 (i := 221) rfl rfl
theorem se_X7_read : Cond.selects RX7 yX7_read yX7_read ∈ wsG := inT1 (i := 222) rfl rfl
theorem co_X2_lose : Cond.code yX2_lose cX2_lose 2 none ∈ wsG := inT1 (i := 227) rfl rfl
theorem im_X2_lose : Cond.instanceMethod yX2_lose ∈ wsG := inT1 (i := 225) rfl rfl
theorem se_X2_lose : Cond.selects RX2 yX2_lose yX2_lose ∈ wsG := inT1 (i := 226) rfl rfl
theorem co_Mmax : Cond.code Lib.Math.max.name Lib.Math.max.code 2 (some .int) ∈ wsG := inT1 (i := 230) rfl rfl
theorem sm_Mmax : Cond.static Lib.Math.max.name ∈ wsG := inT1 (i := 229) rfl rfl
theorem co_X7_pass : Cond.code yX7_pass cX7_pass 3 (some .int) ∈ wsG := inT1 (i := 234) rfl rfl
theorem im_X7_pass : Cond.instanceMethod yX7_pass ∈ wsG := inT1 (i := 232) rfl rfl
theorem se_X7_pass : Cond.selects RX7 yX7_pass yX7_pass ∈ wsG := inT1 (i := 233) rfl rfl
theorem co_X7_best : Cond.code yX7_best cX7_best 5 (some .int) ∈ wsG := inT1 (i := 238) rfl rfl
theorem im_X7_best : Cond.instanceMethod yX7_best ∈ wsG := inT1 (i := 236) rfl rfl
theorem se_X7_best : Cond.selects RX7 yX7_best yX7_best ∈ wsG := inT1 (i := 237) rfl rfl
theorem co_X7_planRefusal : Cond.code yX7_planRefusal cX7_planRefusal 6 (some .int) ∈ wsG := inT2 (i := 2) rfl rfl
theorem im_X7_planRefusal : Cond.instanceMethod yX7_planRefusal ∈ wsG := inT2 (i := 1) rfl rfl
theorem se_X7_planRefusal : Cond.selects RX7 yX7_planRefusal yX7_planRefusal ∈ wsG := inS (i := 1) rfl rfl
theorem co_X7_isSetOfSides : Cond.code yX7_isSetOfSides cX7_isSetOfSides 2 (some .boolean) ∈ wsG := inT2 (i := 6) rfl rfl
theorem im_X7_isSetOfSides : Cond.instanceMethod yX7_isSetOfSides ∈ wsG := inT2 (i := 5) rfl rfl
theorem se_X7_isSetOfSides : Cond.selects RX7 yX7_isSetOfSides yX7_isSetOfSides ∈ wsG := inS (i := 2) rfl rfl
theorem co_J6_bitCount_0f7a4 : Cond.code yJ6_bitCount_0f7a4 cJ6_bitCount_0f7a4 1 (some .int) ∈ wsG := inT2 (i := 9) rfl rfl
theorem sm_J6_bitCount_0f7a4 : Cond.static yJ6_bitCount_0f7a4 ∈ wsG := inT2 (i := 8) rfl rfl
theorem co_X7_takeIntoPlan : Cond.code yX7_takeIntoPlan cX7_takeIntoPlan 4 none ∈ wsG := inT2 (i := 16) rfl rfl
theorem im_X7_takeIntoPlan : Cond.instanceMethod yX7_takeIntoPlan ∈ wsG := inT2 (i := 15) rfl rfl
theorem se_X7_takeIntoPlan : Cond.selects RX7 yX7_takeIntoPlan yX7_takeIntoPlan ∈ wsG := inS (i := 3) rfl rfl
theorem co_X0_begin : Cond.code yX0_begin cX0_begin 2 none ∈ wsG := inT2 (i := 20) rfl rfl
theorem im_X0_begin : Cond.instanceMethod yX0_begin ∈ wsG := inT2 (i := 18) rfl rfl
theorem se_X0_begin : Cond.selects RX0 yX0_begin yX0_begin ∈ wsG := inT2 (i := 19) rfl rfl
theorem co_Mmin : Cond.code Lib.Math.min.name Lib.Math.min.code 2 (some .int) ∈ wsG := inT2 (i := 23) rfl rfl
theorem sm_Mmin : Cond.static Lib.Math.min.name ∈ wsG := inT2 (i := 22) rfl rfl
theorem co_X7_holds : Cond.code yX7_holds cX7_holds 2 (some .boolean) ∈ wsG := inT2 (i := 26) rfl rfl
theorem sm_X7_holds : Cond.static yX7_holds ∈ wsG := inT2 (i := 25) rfl rfl
theorem co_X0_take : Cond.code yX0_take cX0_take 3 none ∈ wsG := inT2 (i := 30) rfl rfl
theorem im_X0_take : Cond.instanceMethod yX0_take ∈ wsG := inT2 (i := 28) rfl rfl
theorem se_X0_take : Cond.selects RX0 yX0_take yX0_take ∈ wsG := inT2 (i := 29) rfl rfl
theorem co_X2_savedIn : Cond.code yX2_savedIn cX2_savedIn 4 (some .int) ∈ wsG := inT2 (i := 34) rfl rfl
theorem im_X2_savedIn : Cond.instanceMethod yX2_savedIn ∈ wsG := inT2 (i := 32) rfl rfl
theorem se_X2_savedIn : Cond.selects RX2 yX2_savedIn yX2_savedIn ∈ wsG := inT2 (i := 33) rfl rfl
theorem co_X0_mostWith : Cond.code yX0_mostWith cX0_mostWith 2 (some .int) ∈ wsG := inT2 (i := 38) rfl rfl
theorem im_X0_mostWith : Cond.instanceMethod yX0_mostWith ∈ wsG := inT2 (i := 36) rfl rfl
theorem se_X0_mostWith : Cond.selects RX0 yX0_mostWith yX0_mostWith ∈ wsG := inT2 (i := 37) rfl rfl
theorem co_J7_fill_53178 : Cond.code yJ7_fill_53178 cJ7_fill_53178 4 none ∈ wsG := inT2 (i := 41) rfl rfl
theorem sm_J7_fill_53178 : Cond.static yJ7_fill_53178 ∈ wsG := inT2 (i := 40) rfl rfl
theorem co_X0_mostFrom : Cond.code yX0_mostFrom cX0_mostFrom 5 (some .int) ∈ wsG := inT2 (i := 45) rfl rfl
theorem im_X0_mostFrom : Cond.instanceMethod yX0_mostFrom ∈ wsG := inT2 (i := 44) rfl rfl
theorem se_X0_mostFrom : Cond.selects RX0 yX0_mostFrom yX0_mostFrom ∈ wsG := inS (i := 4) rfl rfl
theorem co_X0_addUp : Cond.code yX0_addUp cX0_addUp 7 none ∈ wsG := inT2 (i := 49) rfl rfl
theorem im_X0_addUp : Cond.instanceMethod yX0_addUp ∈ wsG := inT2 (i := 48) rfl rfl
theorem se_X0_addUp : Cond.selects RX0 yX0_addUp yX0_addUp ∈ wsG := inS (i := 5) rfl rfl
theorem co_X0_savedTogether : Cond.code yX0_savedTogether cX0_savedTogether 6 (some .int) ∈ wsG := inT2 (i := 53) rfl rfl
theorem im_X0_savedTogether : Cond.instanceMethod yX0_savedTogether ∈ wsG := inT2 (i := 52) rfl rfl
theorem se_X0_savedTogether : Cond.selects RX0 yX0_savedTogether yX0_savedTogether ∈ wsG := inS (i := 6) rfl rfl
theorem co_X0_joinYear : Cond.code yX0_joinYear cX0_joinYear 5 none ∈ wsG := inT2 (i := 58) rfl rfl
theorem im_X0_joinYear : Cond.instanceMethod yX0_joinYear ∈ wsG := inT2 (i := 57) rfl rfl
theorem se_X0_joinYear : Cond.selects RX0 yX0_joinYear yX0_joinYear ∈ wsG := inS (i := 7) rfl rfl
theorem co_X7_does : Cond.code yX7_does cX7_does 7 (some .int) ∈ wsG := inT2 (i := 62) rfl rfl
theorem im_X7_does : Cond.instanceMethod yX7_does ∈ wsG := inT2 (i := 60) rfl rfl
theorem se_X7_does : Cond.selects RX7 yX7_does yX7_does ∈ wsG := inT2 (i := 61) rfl rfl
theorem co_X0_optionAt : Cond.code yX0_optionAt cX0_optionAt 6 (some .int) ∈ wsG := inT2 (i := 66) rfl rfl
theorem im_X0_optionAt : Cond.instanceMethod yX0_optionAt ∈ wsG := inT2 (i := 64) rfl rfl
theorem se_X0_optionAt : Cond.selects RX0 yX0_optionAt yX0_optionAt ∈ wsG := inT2 (i := 65) rfl rfl
theorem co_X0_firstOption : Cond.code yX0_firstOption cX0_firstOption 7 (some .int) ∈ wsG := inT2 (i := 71) rfl rfl
theorem im_X0_firstOption : Cond.instanceMethod yX0_firstOption ∈ wsG := inT2 (i := 70) rfl rfl
theorem se_X0_firstOption : Cond.selects RX0 yX0_firstOption yX0_firstOption ∈ wsG := inS (i := 8) rfl rfl
theorem co_X0_hoursFor : Cond.code yX0_hoursFor cX0_hoursFor 3 (some .int) ∈ wsG := inT2 (i := 75) rfl rfl
theorem im_X0_hoursFor : Cond.instanceMethod yX0_hoursFor ∈ wsG := inT2 (i := 74) rfl rfl
theorem se_X0_hoursFor : Cond.selects RX0 yX0_hoursFor yX0_hoursFor ∈ wsG := inS (i := 9) rfl rfl
theorem co_X7_needed : Cond.code yX7_needed cX7_needed 5 (some .int) ∈ wsG := inT2 (i := 79) rfl rfl
theorem im_X7_needed : Cond.instanceMethod yX7_needed ∈ wsG := inT2 (i := 77) rfl rfl
theorem se_X7_needed : Cond.selects RX7 yX7_needed yX7_needed ∈ wsG := inT2 (i := 78) rfl rfl
theorem co_X0_leastHours : Cond.code yX0_leastHours cX0_leastHours 5 (some .int) ∈ wsG := inT2 (i := 84) rfl rfl
theorem im_X0_leastHours : Cond.instanceMethod yX0_leastHours ∈ wsG := inT2 (i := 82) rfl rfl
theorem se_X0_leastHours : Cond.selects RX0 yX0_leastHours yX0_leastHours ∈ wsG := inT2 (i := 83) rfl rfl
theorem co_X7_sign : Cond.code yX7_sign cX7_sign 6 (some .int) ∈ wsG := inT2 (i := 88) rfl rfl
theorem im_X7_sign : Cond.instanceMethod yX7_sign ∈ wsG := inT2 (i := 86) rfl rfl
theorem se_X7_sign : Cond.selects RX7 yX7_sign yX7_sign ∈ wsG := inT2 (i := 87) rfl rfl
theorem co_X4_isFull : Cond.code yX4_isFull cX4_isFull 1 (some .boolean) ∈ wsG := inT2 (i := 92) rfl rfl
theorem im_X4_isFull : Cond.instanceMethod yX4_isFull ∈ wsG := inT2 (i := 90) rfl rfl
theorem se_X4_isFull : Cond.selects RX4 yX4_isFull yX4_isFull ∈ wsG := inT2 (i := 91) rfl rfl
theorem co_X3_init : Cond.code yX3_init cX3_init 5 none ∈ wsG := inT2 (i := 97) rfl rfl
theorem im_X3_init : Cond.instanceMethod yX3_init ∈ wsG := inT2 (i := 96) rfl rfl
theorem co_X4_add : Cond.code yX4_add cX4_add 2 (some .int) ∈ wsG := inT2 (i := 122) rfl rfl
theorem im_X4_add : Cond.instanceMethod yX4_add ∈ wsG := inT2 (i := 120) rfl rfl
theorem se_X4_add : Cond.selects RX4 yX4_add yX4_add ∈ wsG := inT2 (i := 121) rfl rfl
theorem co_X7_drop : Cond.code yX7_drop cX7_drop 2 (some .int) ∈ wsG := inT2 (i := 126) rfl rfl
theorem im_X7_drop : Cond.instanceMethod yX7_drop ∈ wsG := inT2 (i := 124) rfl rfl
theorem se_X7_drop : Cond.selects RX7 yX7_drop yX7_drop ∈ wsG := inT2 (i := 125) rfl rfl
theorem co_X4_has : Cond.code yX4_has cX4_has 2 (some .boolean) ∈ wsG := inT2 (i := 130) rfl rfl
theorem im_X4_has : Cond.instanceMethod yX4_has ∈ wsG := inT2 (i := 128) rfl rfl
theorem se_X4_has : Cond.selects RX4 yX4_has yX4_has ∈ wsG := inT2 (i := 129) rfl rfl
theorem co_X4_takeOut : Cond.code yX4_takeOut cX4_takeOut 3 (some .boolean) ∈ wsG := inT2 (i := 134) rfl rfl
theorem im_X4_takeOut : Cond.instanceMethod yX4_takeOut ∈ wsG := inT2 (i := 132) rfl rfl
theorem se_X4_takeOut : Cond.selects RX4 yX4_takeOut yX4_takeOut ∈ wsG := inT2 (i := 133) rfl rfl
theorem co_X7_speed : Cond.code yX7_speed cX7_speed 2 (some .int) ∈ wsG := inT2 (i := 138) rfl rfl
theorem im_X7_speed : Cond.instanceMethod yX7_speed ∈ wsG := inT2 (i := 136) rfl rfl
theorem se_X7_speed : Cond.selects RX7 yX7_speed yX7_speed ∈ wsG := inT2 (i := 137) rfl rfl
theorem co_X4_leastHeaviest : Cond.code yX4_leastHeaviest cX4_leastHeaviest 7 (some .int) ∈ wsG := inT2 (i := 142) rfl rfl
theorem im_X4_leastHeaviest : Cond.instanceMethod yX4_leastHeaviest ∈ wsG := inT2 (i := 140) rfl rfl
theorem se_X4_leastHeaviest : Cond.selects RX4 yX4_leastHeaviest yX4_leastHeaviest ∈ wsG := inT2 (i := 141) rfl rfl
theorem co_X3_isOf : Cond.code yX3_isOf cX3_isOf 2 (some .boolean) ∈ wsG := inT2 (i := 146) rfl rfl
theorem im_X3_isOf : Cond.instanceMethod yX3_isOf ∈ wsG := inT2 (i := 144) rfl rfl
theorem se_X3_isOf : Cond.selects RX3 yX3_isOf yX3_isOf ∈ wsG := inT2 (i := 145) rfl rfl
theorem co_X4_weightAt : Cond.code yX4_weightAt cX4_weightAt 6 (some .int) ∈ wsG := inT2 (i := 150) rfl rfl
theorem im_X4_weightAt : Cond.instanceMethod yX4_weightAt ∈ wsG := inT2 (i := 148) rfl rfl
theorem se_X4_weightAt : Cond.selects RX4 yX4_weightAt yX4_weightAt ∈ wsG := inT2 (i := 149) rfl rfl
theorem co_X7_span : Cond.code yX7_span cX7_span 2 (some .int) ∈ wsG := inT2 (i := 154) rfl rfl
theorem im_X7_span : Cond.instanceMethod yX7_span ∈ wsG := inT2 (i := 152) rfl rfl
theorem se_X7_span : Cond.selects RX7 yX7_span yX7_span ∈ wsG := inT2 (i := 153) rfl rfl
theorem co_X4_lastHeaviest : Cond.code yX4_lastHeaviest cX4_lastHeaviest 8 (some .int) ∈ wsG := inT2 (i := 158) rfl rfl
theorem im_X4_lastHeaviest : Cond.instanceMethod yX4_lastHeaviest ∈ wsG := inT2 (i := 156) rfl rfl
theorem se_X4_lastHeaviest : Cond.selects RX4 yX4_lastHeaviest yX4_lastHeaviest ∈ wsG := inT2 (i := 157) rfl rfl
theorem co_X7_weighs : Cond.code yX7_weighs cX7_weighs 3 (some .int) ∈ wsG := inT2 (i := 163) rfl rfl
theorem im_X7_weighs : Cond.instanceMethod yX7_weighs ∈ wsG := inT2 (i := 161) rfl rfl
theorem se_X7_weighs : Cond.selects RX7 yX7_weighs yX7_weighs ∈ wsG := inT2 (i := 162) rfl rfl
theorem co_X7_quarrels : Cond.code yX7_quarrels cX7_quarrels 2 (some .int) ∈ wsG := inT2 (i := 168) rfl rfl
theorem im_X7_quarrels : Cond.instanceMethod yX7_quarrels ∈ wsG := inT2 (i := 166) rfl rfl
theorem se_X7_quarrels : Cond.selects RX7 yX7_quarrels yX7_quarrels ∈ wsG := inT2 (i := 167) rfl rfl
theorem co_X4_pairsApart : Cond.code yX4_pairsApart cX4_pairsApart 5 (some .int) ∈ wsG := inT2 (i := 172) rfl rfl
theorem im_X4_pairsApart : Cond.instanceMethod yX4_pairsApart ∈ wsG := inT2 (i := 170) rfl rfl
theorem se_X4_pairsApart : Cond.selects RX4 yX4_pairsApart yX4_pairsApart ∈ wsG := inT2 (i := 171) rfl rfl
theorem co_X3_isApartFrom : Cond.code yX3_isApartFrom cX3_isApartFrom 2 (some .boolean) ∈ wsG := inT2 (i := 176) rfl rfl
theorem im_X3_isApartFrom : Cond.instanceMethod yX3_isApartFrom ∈ wsG := inT2 (i := 174) rfl rfl
theorem se_X3_isApartFrom : Cond.selects RX3 yX3_isApartFrom yX3_isApartFrom ∈ wsG := inT2 (i := 175) rfl rfl
theorem co_X7_piece : Cond.code yX7_piece cX7_piece 3 (some .int) ∈ wsG := inT2 (i := 180) rfl rfl
theorem im_X7_piece : Cond.instanceMethod yX7_piece ∈ wsG := inT2 (i := 178) rfl rfl
theorem se_X7_piece : Cond.selects RX7 yX7_piece yX7_piece ∈ wsG := inT2 (i := 179) rfl rfl
theorem co_X1_isFull : Cond.code yX1_isFull cX1_isFull 1 (some .boolean) ∈ wsG := inT2 (i := 184) rfl rfl
theorem im_X1_isFull : Cond.instanceMethod yX1_isFull ∈ wsG := inT2 (i := 182) rfl rfl
theorem se_X1_isFull : Cond.selects RX1 yX1_isFull yX1_isFull ∈ wsG := inT2 (i := 183) rfl rfl
theorem co_X1_add : Cond.code yX1_add cX1_add 3 (some .int) ∈ wsG := inT2 (i := 188) rfl rfl
theorem im_X1_add : Cond.instanceMethod yX1_add ∈ wsG := inT2 (i := 186) rfl rfl
theorem se_X1_add : Cond.selects RX1 yX1_add yX1_add ∈ wsG := inT2 (i := 187) rfl rfl
theorem co_X7_sweep : Cond.code yX7_sweep cX7_sweep 1 (some .int) ∈ wsG := inT2 (i := 192) rfl rfl
theorem im_X7_sweep : Cond.instanceMethod yX7_sweep ∈ wsG := inT2 (i := 190) rfl rfl
theorem se_X7_sweep : Cond.selects RX7 yX7_sweep yX7_sweep ∈ wsG := inT2 (i := 191) rfl rfl
theorem co_X1_clear : Cond.code yX1_clear cX1_clear 2 (some .int) ∈ wsG := inT2 (i := 196) rfl rfl
theorem im_X1_clear : Cond.instanceMethod yX1_clear ∈ wsG := inT2 (i := 194) rfl rfl
theorem se_X1_clear : Cond.selects RX1 yX1_clear yX1_clear ∈ wsG := inT2 (i := 195) rfl rfl
theorem co_X7_tolerance : Cond.code yX7_tolerance cX7_tolerance 3 (some .int) ∈ wsG := inT2 (i := 200) rfl rfl
theorem im_X7_tolerance : Cond.instanceMethod yX7_tolerance ∈ wsG := inT2 (i := 198) rfl rfl
theorem se_X7_tolerance : Cond.selects RX7 yX7_tolerance yX7_tolerance ∈ wsG := inT2 (i := 199) rfl rfl
theorem co_X7_rows : Cond.code yX7_rows cX7_rows 1 (some .int) ∈ wsG := inT2 (i := 204) rfl rfl
theorem im_X7_rows : Cond.instanceMethod yX7_rows ∈ wsG := inT2 (i := 202) rfl rfl
theorem se_X7_rows : Cond.selects RX7 yX7_rows yX7_rows ∈ wsG := inT2 (i := 203) rfl rfl
theorem co_X1_countRows : Cond.code yX1_countRows cX1_countRows 3 (some .int) ∈ wsG := inT2 (i := 208) rfl rfl
theorem im_X1_countRows : Cond.instanceMethod yX1_countRows ∈ wsG := inT2 (i := 206) rfl rfl
theorem se_X1_countRows : Cond.selects RX1 yX1_countRows yX1_countRows ∈ wsG := inT2 (i := 207) rfl rfl
theorem co_X1_weighAll : Cond.code yX1_weighAll cX1_weighAll 4 none ∈ wsG := inT2 (i := 212) rfl rfl
theorem im_X1_weighAll : Cond.instanceMethod yX1_weighAll ∈ wsG := inT2 (i := 211) rfl rfl
theorem se_X1_weighAll : Cond.selects RX1 yX1_weighAll yX1_weighAll ∈ wsG := inS (i := 10) rfl rfl
theorem co_X1_weigh : Cond.code yX1_weigh cX1_weigh 8 none ∈ wsG := inT2 (i := 217) rfl rfl
theorem im_X1_weigh : Cond.instanceMethod yX1_weigh ∈ wsG := inT2 (i := 216) rfl rfl
theorem se_X1_weigh : Cond.selects RX1 yX1_weigh yX1_weigh ∈ wsG := inS (i := 11) rfl rfl
theorem co_X1_canFollow : Cond.code yX1_canFollow cX1_canFollow 4 (some .boolean) ∈ wsG := inT2 (i := 221) rfl rfl
theorem im_X1_canFollow : Cond.instanceMethod yX1_canFollow ∈ wsG := inT2 (i := 220) rfl rfl
theorem se_X1_canFollow : Cond.selects RX1 yX1_canFollow yX1_canFollow ∈ wsG := inS (i := 12) rfl rfl
theorem co_X1_gap : Cond.code yX1_gap cX1_gap 3 (some .int) ∈ wsG := inT2 (i := 225) rfl rfl
theorem im_X1_gap : Cond.instanceMethod yX1_gap ∈ wsG := inT2 (i := 224) rfl rfl
theorem se_X1_gap : Cond.selects RX1 yX1_gap yX1_gap ∈ wsG := inS (i := 13) rfl rfl
theorem co_Mabs : Cond.code Lib.Math.abs.name Lib.Math.abs.code 1 (some .int) ∈ wsG := inT2 (i := 228) rfl rfl
theorem sm_Mabs : Cond.static Lib.Math.abs.name ∈ wsG := inT2 (i := 227) rfl rfl
theorem co_X1_cell : Cond.code yX1_cell cX1_cell 2 (some .int) ∈ wsG := inT2 (i := 231) rfl rfl
theorem sm_X1_cell : Cond.static yX1_cell ∈ wsG := inT2 (i := 230) rfl rfl
theorem co_X7_misfit : Cond.code yX7_misfit cX7_misfit 1 (some .int) ∈ wsG := inT2 (i := 235) rfl rfl
theorem im_X7_misfit : Cond.instanceMethod yX7_misfit ∈ wsG := inT2 (i := 233) rfl rfl
theorem se_X7_misfit : Cond.selects RX7 yX7_misfit yX7_misfit ∈ wsG := inT2 (i := 234) rfl rfl
theorem co_X1_leastMisfit : Cond.code yX1_leastMisfit cX1_leastMisfit 2 (some .int) ∈ wsG := inT2 (i := 239) rfl rfl
theorem im_X1_leastMisfit : Cond.instanceMethod yX1_leastMisfit ∈ wsG := inT2 (i := 237) rfl rfl
theorem se_X1_leastMisfit : Cond.selects RX1 yX1_leastMisfit yX1_leastMisfit ∈ wsG := inT2 (i := 238) rfl rfl
theorem co_X1_firstPiece : Cond.code yX1_firstPiece cX1_firstPiece 5 (some .int) ∈ wsG := inT3 (i := 3) rfl rfl
theorem im_X1_firstPiece : Cond.instanceMethod yX1_firstPiece ∈ wsG := inT3 (i := 2) rfl rfl
theorem se_X1_firstPiece : Cond.selects RX1 yX1_firstPiece yX1_firstPiece ∈ wsG := inS (i := 14) rfl rfl
theorem co_X7_inRow : Cond.code yX7_inRow cX7_inRow 2 (some .int) ∈ wsG := inT3 (i := 7) rfl rfl
theorem im_X7_inRow : Cond.instanceMethod yX7_inRow ∈ wsG := inT3 (i := 5) rfl rfl
theorem se_X7_inRow : Cond.selects RX7 yX7_inRow yX7_inRow ∈ wsG := inT3 (i := 6) rfl rfl
theorem co_X1_pieceAt : Cond.code yX1_pieceAt cX1_pieceAt 5 (some .int) ∈ wsG := inT3 (i := 11) rfl rfl
theorem im_X1_pieceAt : Cond.instanceMethod yX1_pieceAt ∈ wsG := inT3 (i := 9) rfl rfl
theorem se_X1_pieceAt : Cond.selects RX1 yX1_pieceAt yX1_pieceAt ∈ wsG := inT3 (i := 10) rfl rfl
theorem co_X1_nextPiece : Cond.code yX1_nextPiece cX1_nextPiece 4 (some .int) ∈ wsG := inT3 (i := 15) rfl rfl
theorem im_X1_nextPiece : Cond.instanceMethod yX1_nextPiece ∈ wsG := inT3 (i := 14) rfl rfl
theorem se_X1_nextPiece : Cond.selects RX1 yX1_nextPiece yX1_nextPiece ∈ wsG := inS (i := 15) rfl rfl
theorem co_X7_sung : Cond.code yX7_sung cX7_sung 5 (some .int) ∈ wsG := inT3 (i := 19) rfl rfl
theorem im_X7_sung : Cond.instanceMethod yX7_sung ∈ wsG := inT3 (i := 17) rfl rfl
theorem se_X7_sung : Cond.selects RX7 yX7_sung yX7_sung ∈ wsG := inT3 (i := 18) rfl rfl
theorem co_X7_isSong : Cond.code yX7_isSong cX7_isSong 1 (some .boolean) ∈ wsG := inT3 (i := 22) rfl rfl
theorem sm_X7_isSong : Cond.static yX7_isSong ∈ wsG := inT3 (i := 21) rfl rfl
theorem co_X7_text : Cond.code yX7_text cX7_text 8 (some .int) ∈ wsG := inT3 (i := 26) rfl rfl
theorem im_X7_text : Cond.instanceMethod yX7_text ∈ wsG := inT3 (i := 24) rfl rfl
theorem se_X7_text : Cond.selects RX7 yX7_text yX7_text ∈ wsG := inT3 (i := 25) rfl rfl
theorem co_X7_isHearer : Cond.code yX7_isHearer cX7_isHearer 1 (some .boolean) ∈ wsG := inT3 (i := 29) rfl rfl
theorem sm_X7_isHearer : Cond.static yX7_isHearer ∈ wsG := inT3 (i := 28) rfl rfl
theorem co_X7_isFamily : Cond.code yX7_isFamily cX7_isFamily 1 (some .boolean) ∈ wsG := inT3 (i := 32) rfl rfl
theorem sm_X7_isFamily : Cond.static yX7_isFamily ∈ wsG := inT3 (i := 31) rfl rfl
theorem co_X7_isDay : Cond.code yX7_isDay cX7_isDay 1 (some .boolean) ∈ wsG := inT3 (i := 35) rfl rfl
theorem sm_X7_isDay : Cond.static yX7_isDay ∈ wsG := inT3 (i := 34) rfl rfl
theorem co_X6_isFull : Cond.code yX6_isFull cX6_isFull 1 (some .boolean) ∈ wsG := inT3 (i := 39) rfl rfl
theorem im_X6_isFull : Cond.instanceMethod yX6_isFull ∈ wsG := inT3 (i := 37) rfl rfl
theorem se_X6_isFull : Cond.selects RX6 yX6_isFull yX6_isFull ∈ wsG := inT3 (i := 38) rfl rfl
theorem co_X7_askedBy : Cond.code yX7_askedBy cX7_askedBy 4 (some .int) ∈ wsG := inT3 (i := 42) rfl rfl
theorem sm_X7_askedBy : Cond.static yX7_askedBy ∈ wsG := inT3 (i := 41) rfl rfl
theorem co_X6_add : Cond.code yX6_add cX6_add 6 (some .int) ∈ wsG := inT3 (i := 46) rfl rfl
theorem im_X6_add : Cond.instanceMethod yX6_add ∈ wsG := inT3 (i := 44) rfl rfl
theorem se_X6_add : Cond.selects RX6 yX6_add yX6_add ∈ wsG := inT3 (i := 45) rfl rfl
theorem co_X5_init : Cond.code yX5_init cX5_init 6 none ∈ wsG := inT3 (i := 50) rfl rfl
theorem im_X5_init : Cond.instanceMethod yX5_init ∈ wsG := inT3 (i := 49) rfl rfl
theorem co_X7_counts : Cond.code yX7_counts cX7_counts 5 (some .int) ∈ wsG := inT3 (i := 74) rfl rfl
theorem im_X7_counts : Cond.instanceMethod yX7_counts ∈ wsG := inT3 (i := 72) rfl rfl
theorem se_X7_counts : Cond.selects RX7 yX7_counts yX7_counts ∈ wsG := inT3 (i := 73) rfl rfl
theorem co_X6_latestFor : Cond.code yX6_latestFor cX6_latestFor 6 (some .int) ∈ wsG := inT3 (i := 78) rfl rfl
theorem im_X6_latestFor : Cond.instanceMethod yX6_latestFor ∈ wsG := inT3 (i := 76) rfl rfl
theorem se_X6_latestFor : Cond.selects RX6 yX6_latestFor yX6_latestFor ∈ wsG := inT3 (i := 77) rfl rfl
theorem co_X5_isFor : Cond.code yX5_isFor cX5_isFor 2 (some .boolean) ∈ wsG := inT3 (i := 82) rfl rfl
theorem im_X5_isFor : Cond.instanceMethod yX5_isFor ∈ wsG := inT3 (i := 80) rfl rfl
theorem se_X5_isFor : Cond.selects RX5 yX5_isFor yX5_isFor ∈ wsG := inT3 (i := 81) rfl rfl
theorem co_X7_may : Cond.code yX7_may cX7_may 4 (some .int) ∈ wsG := inT3 (i := 86) rfl rfl
theorem im_X7_may : Cond.instanceMethod yX7_may ∈ wsG := inT3 (i := 84) rfl rfl
theorem se_X7_may : Cond.selects RX7 yX7_may yX7_may ∈ wsG := inT3 (i := 85) rfl rfl
theorem co_X6_letOn : Cond.code yX6_letOn cX6_letOn 5 (some .int) ∈ wsG := inT3 (i := 90) rfl rfl
theorem im_X6_letOn : Cond.instanceMethod yX6_letOn ∈ wsG := inT3 (i := 88) rfl rfl
theorem se_X6_letOn : Cond.selects RX6 yX6_letOn yX6_letOn ∈ wsG := inT3 (i := 89) rfl rfl
theorem co_X5_letAfter : Cond.code yX5_letAfter cX5_letAfter 2 (some .int) ∈ wsG := inT3 (i := 94) rfl rfl
theorem im_X5_letAfter : Cond.instanceMethod yX5_letAfter ∈ wsG := inT3 (i := 92) rfl rfl
theorem se_X5_letAfter : Cond.selects RX5 yX5_letAfter yX5_letAfter ∈ wsG := inT3 (i := 93) rfl rfl
theorem co_X2_isLetBy : Cond.code yX2_isLetBy cX2_isLetBy 2 (some .boolean) ∈ wsG := inT3 (i := 98) rfl rfl
theorem im_X2_isLetBy : Cond.instanceMethod yX2_isLetBy ∈ wsG := inT3 (i := 96) rfl rfl
theorem se_X2_isLetBy : Cond.selects RX2 yX2_isLetBy yX2_isLetBy ∈ wsG := inT3 (i := 97) rfl rfl
theorem co_X2_asked : Cond.code yX2_asked cX2_asked 1 (some .int) ∈ wsG := inT3 (i := 102) rfl rfl
theorem im_X2_asked : Cond.instanceMethod yX2_asked ∈ wsG := inT3 (i := 100) rfl rfl
theorem se_X2_asked : Cond.selects RX2 yX2_asked yX2_asked ∈ wsG := inT3 (i := 101) rfl rfl
theorem co_X7_heard : Cond.code yX7_heard cX7_heard 6 (some .int) ∈ wsG := inT3 (i := 106) rfl rfl
theorem im_X7_heard : Cond.instanceMethod yX7_heard ∈ wsG := inT3 (i := 104) rfl rfl
theorem se_X7_heard : Cond.selects RX7 yX7_heard yX7_heard ∈ wsG := inT3 (i := 105) rfl rfl
theorem co_X7_days : Cond.code yX7_days cX7_days 7 (some .int) ∈ wsG := inT3 (i := 110) rfl rfl
theorem im_X7_days : Cond.instanceMethod yX7_days ∈ wsG := inT3 (i := 108) rfl rfl
theorem se_X7_days : Cond.selects RX7 yX7_days yX7_days ∈ wsG := inT3 (i := 109) rfl rfl
theorem co_X6_daysThatLet : Cond.code yX6_daysThatLet cX6_daysThatLet 10 (some .int) ∈ wsG := inT3 (i := 115) rfl rfl
theorem im_X6_daysThatLet : Cond.instanceMethod yX6_daysThatLet ∈ wsG := inT3 (i := 113) rfl rfl
theorem se_X6_daysThatLet : Cond.selects RX6 yX6_daysThatLet yX6_daysThatLet ∈ wsG := inT3 (i := 114) rfl rfl
theorem co_X7_copy : Cond.code yX7_copy cX7_copy 4 (some .int) ∈ wsG := inT3 (i := 119) rfl rfl
theorem im_X7_copy : Cond.instanceMethod yX7_copy ∈ wsG := inT3 (i := 117) rfl rfl
theorem se_X7_copy : Cond.selects RX7 yX7_copy yX7_copy ∈ wsG := inT3 (i := 118) rfl rfl
theorem co_X7_stepsUp : Cond.code yX7_stepsUp cX7_stepsUp 5 (some .int) ∈ wsG := inT3 (i := 123) rfl rfl
theorem im_X7_stepsUp : Cond.instanceMethod yX7_stepsUp ∈ wsG := inT3 (i := 122) rfl rfl
theorem se_X7_stepsUp : Cond.selects RX7 yX7_stepsUp yX7_stepsUp ∈ wsG := inS (i := 16) rfl rfl
theorem co_X7_copies : Cond.code yX7_copies cX7_copies 4 (some .int) ∈ wsG := inT3 (i := 127) rfl rfl
theorem im_X7_copies : Cond.instanceMethod yX7_copies ∈ wsG := inT3 (i := 125) rfl rfl
theorem se_X7_copies : Cond.selects RX7 yX7_copies yX7_copies ∈ wsG := inT3 (i := 126) rfl rfl
theorem co_X7_clearest : Cond.code yX7_clearest cX7_clearest 7 (some .int) ∈ wsG := inT3 (i := 131) rfl rfl
theorem im_X7_clearest : Cond.instanceMethod yX7_clearest ∈ wsG := inT3 (i := 129) rfl rfl
theorem se_X7_clearest : Cond.selects RX7 yX7_clearest yX7_clearest ∈ wsG := inT3 (i := 130) rfl rfl
theorem co_X7_total : Cond.code yX7_total cX7_total 2 (some .int) ∈ wsG := inT3 (i := 135) rfl rfl
theorem im_X7_total : Cond.instanceMethod yX7_total ∈ wsG := inT3 (i := 133) rfl rfl
theorem se_X7_total : Cond.selects RX7 yX7_total yX7_total ∈ wsG := inT3 (i := 134) rfl rfl
theorem co_X4_countLive : Cond.code yX4_countLive cX4_countLive 3 (some .int) ∈ wsG := inT3 (i := 139) rfl rfl
theorem im_X4_countLive : Cond.instanceMethod yX4_countLive ∈ wsG := inT3 (i := 137) rfl rfl
theorem se_X4_countLive : Cond.selects RX4 yX4_countLive yX4_countLive ∈ wsG := inT3 (i := 138) rfl rfl
theorem co_X7_allSound : Cond.code yX7_allSound cX7_allSound 3 (some .int) ∈ wsG := inT3 (i := 143) rfl rfl
theorem im_X7_allSound : Cond.instanceMethod yX7_allSound ∈ wsG := inT3 (i := 142) rfl rfl
theorem se_X7_allSound : Cond.selects RX7 yX7_allSound yX7_allSound ∈ wsG := inS (i := 17) rfl rfl
theorem co_X8_init : Cond.code yX8_init cX8_init 1 none ∈ wsG := inT3 (i := 148) rfl rfl
theorem im_X8_init : Cond.instanceMethod yX8_init ∈ wsG := inT3 (i := 147) rfl rfl
theorem co_X8_side : Cond.code yX8_side cX8_side 5 (some .int) ∈ wsG := inT4 (i := 26) rfl rfl
theorem im_X8_side : Cond.instanceMethod yX8_side ∈ wsG := inT4 (i := 24) rfl rfl
theorem se_X8_side : Cond.selects RX8 yX8_side yX8_side ∈ wsG := inT4 (i := 25) rfl rfl
theorem co_X8_in : Cond.code yX8_in cX8_in 6 (some .boolean) ∈ wsG := inT4 (i := 30) rfl rfl
theorem sm_X8_in : Cond.static yX8_in ∈ wsG := inT4 (i := 29) rfl rfl
theorem co_X8_hours : Cond.code yX8_hours cX8_hours 4 (some .int) ∈ wsG := inT4 (i := 35) rfl rfl
theorem im_X8_hours : Cond.instanceMethod yX8_hours ∈ wsG := inT4 (i := 33) rfl rfl
theorem se_X8_hours : Cond.selects RX8 yX8_hours yX8_hours ∈ wsG := inT4 (i := 34) rfl rfl
theorem co_X8_noSide : Cond.code yX8_noSide cX8_noSide 2 (some .boolean) ∈ wsG := inT4 (i := 39) rfl rfl
theorem im_X8_noSide : Cond.instanceMethod yX8_noSide ∈ wsG := inT4 (i := 38) rfl rfl
theorem se_X8_noSide : Cond.selects RX8 yX8_noSide yX8_noSide ∈ wsG := inS (i := 18) rfl rfl
theorem co_X8_told : Cond.code yX8_told cX8_told 3 (some .int) ∈ wsG := inT4 (i := 43) rfl rfl
theorem im_X8_told : Cond.instanceMethod yX8_told ∈ wsG := inT4 (i := 41) rfl rfl
theorem se_X8_told : Cond.selects RX8 yX8_told yX8_told ∈ wsG := inT4 (i := 42) rfl rfl
theorem co_X8_read : Cond.code yX8_read cX8_read 3 (some .int) ∈ wsG := inT4 (i := 47) rfl rfl
theorem im_X8_read : Cond.instanceMethod yX8_read ∈ wsG := inT4 (i := 45) rfl rfl
theorem se_X8_read : Cond.selects RX8 yX8_read yX8_read ∈ wsG := inT4 (i := 46) rfl rfl
theorem co_X8_atLeastNone : Cond.code yX8_atLeastNone cX8_atLeastNone 1 (some .int) ∈ wsG := inT4 (i := 50) rfl rfl
theorem sm_X8_atLeastNone : Cond.static yX8_atLeastNone ∈ wsG := inT4 (i := 49) rfl rfl
theorem co_X8_pass : Cond.code yX8_pass cX8_pass 3 (some .int) ∈ wsG := inT4 (i := 54) rfl rfl
theorem im_X8_pass : Cond.instanceMethod yX8_pass ∈ wsG := inT4 (i := 52) rfl rfl
theorem se_X8_pass : Cond.selects RX8 yX8_pass yX8_pass ∈ wsG := inT4 (i := 53) rfl rfl
theorem co_X8_best : Cond.code yX8_best cX8_best 4 (some .int) ∈ wsG := inT4 (i := 58) rfl rfl
theorem im_X8_best : Cond.instanceMethod yX8_best ∈ wsG := inT4 (i := 56) rfl rfl
theorem se_X8_best : Cond.selects RX8 yX8_best yX8_best ∈ wsG := inT4 (i := 57) rfl rfl
theorem co_X8_noSet : Cond.code yX8_noSet cX8_noSet 2 (some .boolean) ∈ wsG := inT4 (i := 62) rfl rfl
theorem im_X8_noSet : Cond.instanceMethod yX8_noSet ∈ wsG := inT4 (i := 61) rfl rfl
theorem se_X8_noSet : Cond.selects RX8 yX8_noSet yX8_noSet ∈ wsG := inS (i := 19) rfl rfl
theorem co_X8_badPlan : Cond.code yX8_badPlan cX8_badPlan 3 (some .boolean) ∈ wsG := inT4 (i := 65) rfl rfl
theorem sm_X8_badPlan : Cond.static yX8_badPlan ∈ wsG := inT4 (i := 64) rfl rfl
theorem co_X8_bits : Cond.code yX8_bits cX8_bits 3 (some .int) ∈ wsG := inT4 (i := 68) rfl rfl
theorem sm_X8_bits : Cond.static yX8_bits ∈ wsG := inT4 (i := 67) rfl rfl
theorem co_X8_plan : Cond.code yX8_plan cX8_plan 7 none ∈ wsG := inT4 (i := 74) rfl rfl
theorem im_X8_plan : Cond.instanceMethod yX8_plan ∈ wsG := inT4 (i := 73) rfl rfl
theorem se_X8_plan : Cond.selects RX8 yX8_plan yX8_plan ∈ wsG := inS (i := 20) rfl rfl
theorem co_X8_gather : Cond.code yX8_gather cX8_gather 3 none ∈ wsG := inT4 (i := 78) rfl rfl
theorem im_X8_gather : Cond.instanceMethod yX8_gather ∈ wsG := inT4 (i := 77) rfl rfl
theorem se_X8_gather : Cond.selects RX8 yX8_gather yX8_gather ∈ wsG := inS (i := 21) rfl rfl
theorem co_X8_codes : Cond.code yX8_codes cX8_codes 4 (some .int) ∈ wsG := inT4 (i := 82) rfl rfl
theorem im_X8_codes : Cond.instanceMethod yX8_codes ∈ wsG := inT4 (i := 81) rfl rfl
theorem se_X8_codes : Cond.selects RX8 yX8_codes yX8_codes ∈ wsG := inS (i := 22) rfl rfl
theorem co_X8_weigh : Cond.code yX8_weigh cX8_weigh 8 none ∈ wsG := inT4 (i := 86) rfl rfl
theorem im_X8_weigh : Cond.instanceMethod yX8_weigh ∈ wsG := inT4 (i := 85) rfl rfl
theorem se_X8_weigh : Cond.selects RX8 yX8_weigh yX8_weigh ∈ wsG := inS (i := 23) rfl rfl
theorem co_X8_most : Cond.code yX8_most cX8_most 2 (some .int) ∈ wsG := inT4 (i := 90) rfl rfl
theorem im_X8_most : Cond.instanceMethod yX8_most ∈ wsG := inT4 (i := 89) rfl rfl
theorem se_X8_most : Cond.selects RX8 yX8_most yX8_most ∈ wsG := inS (i := 24) rfl rfl
theorem co_X8_does : Cond.code yX8_does cX8_does 7 (some .int) ∈ wsG := inT4 (i := 94) rfl rfl
theorem im_X8_does : Cond.instanceMethod yX8_does ∈ wsG := inT4 (i := 92) rfl rfl
theorem se_X8_does : Cond.selects RX8 yX8_does yX8_does ∈ wsG := inT4 (i := 93) rfl rfl
theorem co_X8_needed : Cond.code yX8_needed cX8_needed 6 (some .int) ∈ wsG := inT4 (i := 98) rfl rfl
theorem im_X8_needed : Cond.instanceMethod yX8_needed ∈ wsG := inT4 (i := 96) rfl rfl
theorem se_X8_needed : Cond.selects RX8 yX8_needed yX8_needed ∈ wsG := inT4 (i := 97) rfl rfl
theorem co_X8_sign : Cond.code yX8_sign cX8_sign 5 (some .int) ∈ wsG := inT4 (i := 103) rfl rfl
theorem im_X8_sign : Cond.instanceMethod yX8_sign ∈ wsG := inT4 (i := 101) rfl rfl
theorem se_X8_sign : Cond.selects RX8 yX8_sign yX8_sign ∈ wsG := inT4 (i := 102) rfl rfl
theorem co_X8_drop : Cond.code yX8_drop cX8_drop 2 (some .int) ∈ wsG := inT4 (i := 108) rfl rfl
theorem im_X8_drop : Cond.instanceMethod yX8_drop ∈ wsG := inT4 (i := 106) rfl rfl
theorem se_X8_drop : Cond.selects RX8 yX8_drop yX8_drop ∈ wsG := inT4 (i := 107) rfl rfl
theorem co_X8_speed : Cond.code yX8_speed cX8_speed 2 (some .int) ∈ wsG := inT4 (i := 112) rfl rfl
theorem im_X8_speed : Cond.instanceMethod yX8_speed ∈ wsG := inT4 (i := 110) rfl rfl
theorem se_X8_speed : Cond.selects RX8 yX8_speed yX8_speed ∈ wsG := inT4 (i := 111) rfl rfl
theorem co_X8_speedOf : Cond.code yX8_speedOf cX8_speedOf 6 (some .int) ∈ wsG := inT4 (i := 116) rfl rfl
theorem im_X8_speedOf : Cond.instanceMethod yX8_speedOf ∈ wsG := inT4 (i := 115) rfl rfl
theorem se_X8_speedOf : Cond.selects RX8 yX8_speedOf yX8_speedOf ∈ wsG := inS (i := 25) rfl rfl
theorem co_X8_isOf : Cond.code yX8_isOf cX8_isOf 3 (some .boolean) ∈ wsG := inT4 (i := 120) rfl rfl
theorem im_X8_isOf : Cond.instanceMethod yX8_isOf ∈ wsG := inT4 (i := 119) rfl rfl
theorem se_X8_isOf : Cond.selects RX8 yX8_isOf yX8_isOf ∈ wsG := inS (i := 26) rfl rfl
theorem co_X8_weighsOf : Cond.code yX8_weighsOf cX8_weighsOf 5 (some .int) ∈ wsG := inT4 (i := 124) rfl rfl
theorem im_X8_weighsOf : Cond.instanceMethod yX8_weighsOf ∈ wsG := inT4 (i := 123) rfl rfl
theorem se_X8_weighsOf : Cond.selects RX8 yX8_weighsOf yX8_weighsOf ∈ wsG := inS (i := 27) rfl rfl
theorem co_X8_span : Cond.code yX8_span cX8_span 7 (some .int) ∈ wsG := inT4 (i := 128) rfl rfl
theorem im_X8_span : Cond.instanceMethod yX8_span ∈ wsG := inT4 (i := 126) rfl rfl
theorem se_X8_span : Cond.selects RX8 yX8_span yX8_span ∈ wsG := inT4 (i := 127) rfl rfl
theorem co_X8_weighs : Cond.code yX8_weighs cX8_weighs 3 (some .int) ∈ wsG := inT4 (i := 132) rfl rfl
theorem im_X8_weighs : Cond.instanceMethod yX8_weighs ∈ wsG := inT4 (i := 130) rfl rfl
theorem se_X8_weighs : Cond.selects RX8 yX8_weighs yX8_weighs ∈ wsG := inT4 (i := 131) rfl rfl
theorem co_X8_quarrels : Cond.code yX8_quarrels cX8_quarrels 5 (some .int) ∈ wsG := inT4 (i := 137) rfl rfl
theorem im_X8_quarrels : Cond.instanceMethod yX8_quarrels ∈ wsG := inT4 (i := 135) rfl rfl
theorem se_X8_quarrels : Cond.selects RX8 yX8_quarrels yX8_quarrels ∈ wsG := inT4 (i := 136) rfl rfl
theorem co_X8_piece : Cond.code yX8_piece cX8_piece 3 (some .int) ∈ wsG := inT4 (i := 141) rfl rfl
theorem im_X8_piece : Cond.instanceMethod yX8_piece ∈ wsG := inT4 (i := 139) rfl rfl
theorem se_X8_piece : Cond.selects RX8 yX8_piece yX8_piece ∈ wsG := inT4 (i := 140) rfl rfl
theorem co_X8_sweep : Cond.code yX8_sweep cX8_sweep 2 (some .int) ∈ wsG := inT4 (i := 146) rfl rfl
theorem im_X8_sweep : Cond.instanceMethod yX8_sweep ∈ wsG := inT4 (i := 144) rfl rfl
theorem se_X8_sweep : Cond.selects RX8 yX8_sweep yX8_sweep ∈ wsG := inT4 (i := 145) rfl rfl
theorem co_X8_tolerance : Cond.code yX8_tolerance cX8_tolerance 3 (some .int) ∈ wsG := inT4 (i := 150) rfl rfl
theorem im_X8_tolerance : Cond.instanceMethod yX8_tolerance ∈ wsG := inT4 (i := 148) rfl rfl
theorem se_X8_tolerance : Cond.selects RX8 yX8_tolerance yX8_tolerance ∈ wsG := inT4 (i := 149) rfl rfl
theorem co_X8_rows : Cond.code yX8_rows cX8_rows 3 (some .int) ∈ wsG := inT4 (i := 154) rfl rfl
theorem im_X8_rows : Cond.instanceMethod yX8_rows ∈ wsG := inT4 (i := 152) rfl rfl
theorem se_X8_rows : Cond.selects RX8 yX8_rows yX8_rows ∈ wsG := inT4 (i := 153) rfl rfl
theorem co_X8_join : Cond.code yX8_join cX8_join 7 none ∈ wsG := inT4 (i := 158) rfl rfl
theorem im_X8_join : Cond.instanceMethod yX8_join ∈ wsG := inT4 (i := 157) rfl rfl
theorem se_X8_join : Cond.selects RX8 yX8_join yX8_join ∈ wsG := inS (i := 28) rfl rfl
theorem co_X8_apart : Cond.code yX8_apart cX8_apart 4 (some .int) ∈ wsG := inT4 (i := 163) rfl rfl
theorem im_X8_apart : Cond.instanceMethod yX8_apart ∈ wsG := inT4 (i := 162) rfl rfl
theorem se_X8_apart : Cond.selects RX8 yX8_apart yX8_apart ∈ wsG := inS (i := 29) rfl rfl
theorem co_X8_others : Cond.code yX8_others cX8_others 2 (some .int) ∈ wsG := inT4 (i := 167) rfl rfl
theorem im_X8_others : Cond.instanceMethod yX8_others ∈ wsG := inT4 (i := 166) rfl rfl
theorem se_X8_others : Cond.selects RX8 yX8_others yX8_others ∈ wsG := inS (i := 30) rfl rfl
theorem co_X8_misfit : Cond.code yX8_misfit cX8_misfit 2 (some .int) ∈ wsG := inT4 (i := 171) rfl rfl
theorem im_X8_misfit : Cond.instanceMethod yX8_misfit ∈ wsG := inT4 (i := 169) rfl rfl
theorem se_X8_misfit : Cond.selects RX8 yX8_misfit yX8_misfit ∈ wsG := inT4 (i := 170) rfl rfl
theorem co_X8_leastOf : Cond.code yX8_leastOf cX8_leastOf 3 (some .int) ∈ wsG := inT4 (i := 175) rfl rfl
theorem im_X8_leastOf : Cond.instanceMethod yX8_leastOf ∈ wsG := inT4 (i := 174) rfl rfl
theorem se_X8_leastOf : Cond.selects RX8 yX8_leastOf yX8_leastOf ∈ wsG := inS (i := 31) rfl rfl
theorem co_X8_inRow : Cond.code yX8_inRow cX8_inRow 9 (some .int) ∈ wsG := inT4 (i := 179) rfl rfl
theorem im_X8_inRow : Cond.instanceMethod yX8_inRow ∈ wsG := inT4 (i := 177) rfl rfl
theorem se_X8_inRow : Cond.selects RX8 yX8_inRow yX8_inRow ∈ wsG := inT4 (i := 178) rfl rfl
theorem co_X8_sung : Cond.code yX8_sung cX8_sung 5 (some .int) ∈ wsG := inT4 (i := 183) rfl rfl
theorem im_X8_sung : Cond.instanceMethod yX8_sung ∈ wsG := inT4 (i := 181) rfl rfl
theorem se_X8_sung : Cond.selects RX8 yX8_sung yX8_sung ∈ wsG := inT4 (i := 182) rfl rfl
theorem co_X8_text : Cond.code yX8_text cX8_text 6 (some .int) ∈ wsG := inT4 (i := 188) rfl rfl
theorem im_X8_text : Cond.instanceMethod yX8_text ∈ wsG := inT4 (i := 186) rfl rfl
theorem se_X8_text : Cond.selects RX8 yX8_text yX8_text ∈ wsG := inT4 (i := 187) rfl rfl
theorem co_X8_noDay : Cond.code yX8_noDay cX8_noDay 1 (some .boolean) ∈ wsG := inT4 (i := 193) rfl rfl
theorem sm_X8_noDay : Cond.static yX8_noDay ∈ wsG := inT4 (i := 192) rfl rfl
theorem co_X8_counts : Cond.code yX8_counts cX8_counts 5 (some .int) ∈ wsG := inT4 (i := 198) rfl rfl
theorem im_X8_counts : Cond.instanceMethod yX8_counts ∈ wsG := inT4 (i := 196) rfl rfl
theorem se_X8_counts : Cond.selects RX8 yX8_counts yX8_counts ∈ wsG := inT4 (i := 197) rfl rfl
theorem co_X8_countsOf : Cond.code yX8_countsOf cX8_countsOf 8 (some .int) ∈ wsG := inT4 (i := 202) rfl rfl
theorem im_X8_countsOf : Cond.instanceMethod yX8_countsOf ∈ wsG := inT4 (i := 201) rfl rfl
theorem se_X8_countsOf : Cond.selects RX8 yX8_countsOf yX8_countsOf ∈ wsG := inS (i := 32) rfl rfl
theorem co_X8_may : Cond.code yX8_may cX8_may 4 (some .int) ∈ wsG := inT4 (i := 206) rfl rfl
theorem im_X8_may : Cond.instanceMethod yX8_may ∈ wsG := inT4 (i := 204) rfl rfl
theorem se_X8_may : Cond.selects RX8 yX8_may yX8_may ∈ wsG := inT4 (i := 205) rfl rfl
theorem co_X8_mayHear : Cond.code yX8_mayHear cX8_mayHear 7 (some .boolean) ∈ wsG := inT4 (i := 210) rfl rfl
theorem im_X8_mayHear : Cond.instanceMethod yX8_mayHear ∈ wsG := inT4 (i := 209) rfl rfl
theorem se_X8_mayHear : Cond.selects RX8 yX8_mayHear yX8_mayHear ∈ wsG := inS (i := 33) rfl rfl
theorem co_X8_heard : Cond.code yX8_heard cX8_heard 3 (some .int) ∈ wsG := inT4 (i := 214) rfl rfl
theorem im_X8_heard : Cond.instanceMethod yX8_heard ∈ wsG := inT4 (i := 212) rfl rfl
theorem se_X8_heard : Cond.selects RX8 yX8_heard yX8_heard ∈ wsG := inT4 (i := 213) rfl rfl
theorem co_X8_heardOf : Cond.code yX8_heardOf cX8_heardOf 5 (some .int) ∈ wsG := inT4 (i := 218) rfl rfl
theorem im_X8_heardOf : Cond.instanceMethod yX8_heardOf ∈ wsG := inT4 (i := 217) rfl rfl
theorem se_X8_heardOf : Cond.selects RX8 yX8_heardOf yX8_heardOf ∈ wsG := inS (i := 34) rfl rfl
theorem co_X8_days : Cond.code yX8_days cX8_days 9 (some .int) ∈ wsG := inT4 (i := 222) rfl rfl
theorem im_X8_days : Cond.instanceMethod yX8_days ∈ wsG := inT4 (i := 220) rfl rfl
theorem se_X8_days : Cond.selects RX8 yX8_days yX8_days ∈ wsG := inT4 (i := 221) rfl rfl
theorem co_X8_copy : Cond.code yX8_copy cX8_copy 4 (some .int) ∈ wsG := inT4 (i := 226) rfl rfl
theorem im_X8_copy : Cond.instanceMethod yX8_copy ∈ wsG := inT4 (i := 224) rfl rfl
theorem se_X8_copy : Cond.selects RX8 yX8_copy yX8_copy ∈ wsG := inT4 (i := 225) rfl rfl
theorem co_X8_stepsTo : Cond.code yX8_stepsTo cX8_stepsTo 5 (some .int) ∈ wsG := inT4 (i := 230) rfl rfl
theorem im_X8_stepsTo : Cond.instanceMethod yX8_stepsTo ∈ wsG := inT4 (i := 229) rfl rfl
theorem se_X8_stepsTo : Cond.selects RX8 yX8_stepsTo yX8_stepsTo ∈ wsG := inS (i := 35) rfl rfl
theorem co_X8_copies : Cond.code yX8_copies cX8_copies 4 (some .int) ∈ wsG := inT4 (i := 234) rfl rfl
theorem im_X8_copies : Cond.instanceMethod yX8_copies ∈ wsG := inT4 (i := 232) rfl rfl
theorem se_X8_copies : Cond.selects RX8 yX8_copies yX8_copies ∈ wsG := inT4 (i := 233) rfl rfl
theorem co_X8_clearest : Cond.code yX8_clearest cX8_clearest 6 (some .int) ∈ wsG := inT4 (i := 238) rfl rfl
theorem im_X8_clearest : Cond.instanceMethod yX8_clearest ∈ wsG := inT4 (i := 236) rfl rfl
theorem se_X8_clearest : Cond.selects RX8 yX8_clearest yX8_clearest ∈ wsG := inT4 (i := 237) rfl rfl
theorem co_X8_total : Cond.code yX8_total cX8_total 5 (some .int) ∈ wsG := inT5 (i := 2) rfl rfl
theorem im_X8_total : Cond.instanceMethod yX8_total ∈ wsG := inT5 (i := 0) rfl rfl
theorem se_X8_total : Cond.selects RX8 yX8_total yX8_total ∈ wsG := inT5 (i := 1) rfl rfl
