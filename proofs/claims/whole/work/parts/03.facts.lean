/-! ===== what the tables say: fields, methods, calls: by their places in tables_1 ===== -/
theorem inX0 : ∀ w ∈ u_ws RX0 TX0 14, w ∈ tbG := fun w h => by
  obtain ⟨k, hk, rfl⟩ := List.mem_map.mp h
  have hk2 := List.mem_range.mp hk
  match k, hk2 with
  | 0, _ => exact tb_1 (i := 138) (by decide +kernel) rfl
  | 1, _ => exact tb_1 (i := 140) (by decide +kernel) rfl
  | 2, _ => exact tb_1 (i := 142) (by decide +kernel) rfl
  | 3, _ => exact tb_1 (i := 144) (by decide +kernel) rfl
  | 4, _ => exact tb_1 (i := 146) (by decide +kernel) rfl
  | 5, _ => exact tb_1 (i := 148) (by decide +kernel) rfl
  | 6, _ => exact tb_1 (i := 150) (by decide +kernel) rfl
  | 7, _ => exact tb_1 (i := 152) (by decide +kernel) rfl
  | 8, _ => exact tb_1 (i := 154) (by decide +kernel) rfl
  | 9, _ => exact tb_1 (i := 156) (by decide +kernel) rfl
  | 10, _ => exact tb_1 (i := 158) (by decide +kernel) rfl
  | 11, _ => exact tb_1 (i := 160) (by decide +kernel) rfl
  | 12, _ => exact tb_1 (i := 162) (by decide +kernel) rfl
  | 13, _ => exact tb_1 (i := 164) (by decide +kernel) rfl
  | k + 14, h => exact absurd h (by omega)
theorem inX1 : ∀ w ∈ u_ws RX1 TX1 6, w ∈ tbG := fun w h => by
  obtain ⟨k, hk, rfl⟩ := List.mem_map.mp h
  have hk2 := List.mem_range.mp hk
  match k, hk2 with
  | 0, _ => exact tb_1 (i := 93) (by decide +kernel) rfl
  | 1, _ => exact tb_1 (i := 95) (by decide +kernel) rfl
  | 2, _ => exact tb_1 (i := 97) (by decide +kernel) rfl
  | 3, _ => exact tb_1 (i := 99) (by decide +kernel) rfl
  | 4, _ => exact tb_1 (i := 101) (by decide +kernel) rfl
  | 5, _ => exact tb_1 (i := 103) (by decide +kernel) rfl
  | k + 6, h => exact absurd h (by omega)
theorem inX2 : ∀ w ∈ u_ws RX2 TX2 11, w ∈ tbG := fun w h => by
  obtain ⟨k, hk, rfl⟩ := List.mem_map.mp h
  have hk2 := List.mem_range.mp hk
  match k, hk2 with
  | 0, _ => exact tb_1 (i := 51) (by decide +kernel) rfl
  | 1, _ => exact tb_1 (i := 53) (by decide +kernel) rfl
  | 2, _ => exact tb_1 (i := 55) (by decide +kernel) rfl
  | 3, _ => exact tb_1 (i := 57) (by decide +kernel) rfl
  | 4, _ => exact tb_1 (i := 59) (by decide +kernel) rfl
  | 5, _ => exact tb_1 (i := 61) (by decide +kernel) rfl
  | 6, _ => exact tb_1 (i := 63) (by decide +kernel) rfl
  | 7, _ => exact tb_1 (i := 65) (by decide +kernel) rfl
  | 8, _ => exact tb_1 (i := 67) (by decide +kernel) rfl
  | 9, _ => exact tb_1 (i := 69) (by decide +kernel) rfl
  | 10, _ => exact tb_1 (i := 71) (by decide +kernel) rfl
  | k + 11, h => exact absurd h (by omega)
theorem inX3 : ∀ w ∈ u_ws RX3 TX3 6, w ∈ tbG := fun w h => by
  obtain ⟨k, hk, rfl⟩ := List.mem_map.mp h
  have hk2 := List.mem_range.mp hk
  match k, hk2 with
  | 0, _ => exact tb_1 (i := 174) (by decide +kernel) rfl
  | 1, _ => exact tb_1 (i := 176) (by decide +kernel) rfl
  | 2, _ => exact tb_1 (i := 178) (by decide +kernel) rfl
  | 3, _ => exact tb_1 (i := 180) (by decide +kernel) rfl
  | 4, _ => exact tb_1 (i := 182) (by decide +kernel) rfl
  | 5, _ => exact tb_1 (i := 184) (by decide +kernel) rfl
  | k + 6, h => exact absurd h (by omega)
theorem inX4 : ∀ w ∈ u_ws RX4 TX4 29, w ∈ tbG := fun w h => by
  obtain ⟨k, hk, rfl⟩ := List.mem_map.mp h
  have hk2 := List.mem_range.mp hk
  match k, hk2 with
  | 0, _ => exact tb_2 (i := 149) (by decide +kernel) rfl
  | 1, _ => exact tb_2 (i := 151) (by decide +kernel) rfl
  | 2, _ => exact tb_2 (i := 153) (by decide +kernel) rfl
  | 3, _ => exact tb_2 (i := 155) (by decide +kernel) rfl
  | 4, _ => exact tb_2 (i := 157) (by decide +kernel) rfl
  | 5, _ => exact tb_2 (i := 159) (by decide +kernel) rfl
  | 6, _ => exact tb_2 (i := 161) (by decide +kernel) rfl
  | 7, _ => exact tb_2 (i := 163) (by decide +kernel) rfl
  | 8, _ => exact tb_2 (i := 165) (by decide +kernel) rfl
  | 9, _ => exact tb_2 (i := 167) (by decide +kernel) rfl
  | 10, _ => exact tb_2 (i := 169) (by decide +kernel) rfl
  | 11, _ => exact tb_2 (i := 171) (by decide +kernel) rfl
  | 12, _ => exact tb_2 (i := 173) (by decide +kernel) rfl
  | 13, _ => exact tb_2 (i := 175) (by decide +kernel) rfl
  | 14, _ => exact tb_2 (i := 177) (by decide +kernel) rfl
  | 15, _ => exact tb_2 (i := 179) (by decide +kernel) rfl
  | 16, _ => exact tb_2 (i := 181) (by decide +kernel) rfl
  | 17, _ => exact tb_2 (i := 183) (by decide +kernel) rfl
  | 18, _ => exact tb_2 (i := 185) (by decide +kernel) rfl
  | 19, _ => exact tb_2 (i := 187) (by decide +kernel) rfl
  | 20, _ => exact tb_2 (i := 189) (by decide +kernel) rfl
  | 21, _ => exact tb_2 (i := 191) (by decide +kernel) rfl
  | 22, _ => exact tb_2 (i := 193) (by decide +kernel) rfl
  | 23, _ => exact tb_2 (i := 195) (by decide +kernel) rfl
  | 24, _ => exact tb_2 (i := 197) (by decide +kernel) rfl
  | 25, _ => exact tb_2 (i := 199) (by decide +kernel) rfl
  | 26, _ => exact tb_2 (i := 201) (by decide +kernel) rfl
  | 27, _ => exact tb_2 (i := 203) (by decide +kernel) rfl
  | 28, _ => exact tb_2 (i := 205) (by decide +kernel) rfl
  | k + 29, h => exact absurd h (by omega)
theorem fX2_9 : v_FL RX2 9 2 0 := ⟨RX2, TX2, 11, tyX2, rfl, inX2, tyX2_ok, nmX2, by decide, tb_1 (i := 21) (by decide +kernel) rfl⟩
theorem fX0_91 : v_FL RX0 91 2 0 := ⟨RX2, TX2, 11, tyX2, rfl, inX2, tyX2_ok, nmX2, by decide, tb_1 (i := 22) (by decide +kernel) rfl⟩
theorem fX3_102 : v_FL RX3 102 2 0 := ⟨RX2, TX2, 11, tyX2, rfl, inX2, tyX2_ok, nmX2, by decide, tb_1 (i := 23) (by decide +kernel) rfl⟩
theorem fX2_15 : v_FL RX2 15 2 1 := ⟨RX2, TX2, 11, tyX2, rfl, inX2, tyX2_ok, nmX2, by decide, tb_1 (i := 24) (by decide +kernel) rfl⟩
theorem fX0_41 : v_FL RX0 41 2 1 := ⟨RX2, TX2, 11, tyX2, rfl, inX2, tyX2_ok, nmX2, by decide, tb_1 (i := 25) (by decide +kernel) rfl⟩
theorem fX3_105 : v_FL RX3 105 2 1 := ⟨RX2, TX2, 11, tyX2, rfl, inX2, tyX2_ok, nmX2, by decide, tb_1 (i := 26) (by decide +kernel) rfl⟩
theorem fX2_18 : v_FL RX2 18 2 2 := ⟨RX2, TX2, 11, tyX2, rfl, inX2, tyX2_ok, nmX2, by decide, tb_1 (i := 27) (by decide +kernel) rfl⟩
theorem fX0_94 : v_FL RX0 94 2 2 := ⟨RX2, TX2, 11, tyX2, rfl, inX2, tyX2_ok, nmX2, by decide, tb_1 (i := 28) (by decide +kernel) rfl⟩
theorem fX3_108 : v_FL RX3 108 2 2 := ⟨RX2, TX2, 11, tyX2, rfl, inX2, tyX2_ok, nmX2, by decide, tb_1 (i := 29) (by decide +kernel) rfl⟩
theorem fX2_21 : v_FL RX2 21 2 3 := ⟨RX2, TX2, 11, tyX2, rfl, inX2, tyX2_ok, nmX2, by decide, tb_1 (i := 30) (by decide +kernel) rfl⟩
theorem fX3_59 : v_FL RX3 59 2 3 := ⟨RX2, TX2, 11, tyX2, rfl, inX2, tyX2_ok, nmX2, by decide, tb_1 (i := 31) (by decide +kernel) rfl⟩
theorem fX0_100 : v_FL RX0 100 2 3 := ⟨RX2, TX2, 11, tyX2, rfl, inX2, tyX2_ok, nmX2, by decide, tb_1 (i := 32) (by decide +kernel) rfl⟩
theorem fX2_24 : v_FL RX2 24 2 4 := ⟨RX2, TX2, 11, tyX2, rfl, inX2, tyX2_ok, nmX2, by decide, tb_1 (i := 33) (by decide +kernel) rfl⟩
theorem fX3_84 : v_FL RX3 84 2 4 := ⟨RX2, TX2, 11, tyX2, rfl, inX2, tyX2_ok, nmX2, by decide, tb_1 (i := 34) (by decide +kernel) rfl⟩
theorem fX0_125 : v_FL RX0 125 2 4 := ⟨RX2, TX2, 11, tyX2, rfl, inX2, tyX2_ok, nmX2, by decide, tb_1 (i := 35) (by decide +kernel) rfl⟩
theorem fX2_34 : v_FL RX2 34 2 5 := ⟨RX2, TX2, 11, tyX2, rfl, inX2, tyX2_ok, nmX2, by decide, tb_1 (i := 36) (by decide +kernel) rfl⟩
theorem pX2_34 : v_FP RX2 34 2 5 := ⟨RX2, TX2, 11, tyX2, rfl, inX2, tyX2_ok, nmX2, by decide, tb_1 (i := 36) (by decide +kernel) rfl, rfl, by decide +kernel⟩
theorem fX3_40 : v_FL RX3 40 2 5 := ⟨RX2, TX2, 11, tyX2, rfl, inX2, tyX2_ok, nmX2, by decide, tb_1 (i := 37) (by decide +kernel) rfl⟩
theorem pX3_40 : v_FP RX3 40 2 5 := ⟨RX2, TX2, 11, tyX2, rfl, inX2, tyX2_ok, nmX2, by decide, tb_1 (i := 37) (by decide +kernel) rfl, rfl, by decide +kernel⟩
theorem fX0_62 : v_FL RX0 62 2 5 := ⟨RX2, TX2, 11, tyX2, rfl, inX2, tyX2_ok, nmX2, by decide, tb_1 (i := 38) (by decide +kernel) rfl⟩
theorem pX0_62 : v_FP RX0 62 2 5 := ⟨RX2, TX2, 11, tyX2, rfl, inX2, tyX2_ok, nmX2, by decide, tb_1 (i := 38) (by decide +kernel) rfl, rfl, by decide +kernel⟩
theorem fX2_27 : v_FL RX2 27 2 6 := ⟨RX2, TX2, 11, tyX2, rfl, inX2, tyX2_ok, nmX2, by decide, tb_1 (i := 39) (by decide +kernel) rfl⟩
theorem pX2_27 : v_FP RX2 27 2 6 := ⟨RX2, TX2, 11, tyX2, rfl, inX2, tyX2_ok, nmX2, by decide, tb_1 (i := 39) (by decide +kernel) rfl, rfl, by decide +kernel⟩
theorem fX0_56 : v_FL RX0 56 2 6 := ⟨RX2, TX2, 11, tyX2, rfl, inX2, tyX2_ok, nmX2, by decide, tb_1 (i := 40) (by decide +kernel) rfl⟩
theorem pX0_56 : v_FP RX0 56 2 6 := ⟨RX2, TX2, 11, tyX2, rfl, inX2, tyX2_ok, nmX2, by decide, tb_1 (i := 40) (by decide +kernel) rfl, rfl, by decide +kernel⟩
theorem fX3_63 : v_FL RX3 63 2 6 := ⟨RX2, TX2, 11, tyX2, rfl, inX2, tyX2_ok, nmX2, by decide, tb_1 (i := 41) (by decide +kernel) rfl⟩
theorem pX3_63 : v_FP RX3 63 2 6 := ⟨RX2, TX2, 11, tyX2, rfl, inX2, tyX2_ok, nmX2, by decide, tb_1 (i := 41) (by decide +kernel) rfl, rfl, by decide +kernel⟩
theorem fX2_31 : v_FL RX2 31 2 7 := ⟨RX2, TX2, 11, tyX2, rfl, inX2, tyX2_ok, nmX2, by decide, tb_1 (i := 42) (by decide +kernel) rfl⟩
theorem pX2_31 : v_FP RX2 31 2 7 := ⟨RX2, TX2, 11, tyX2, rfl, inX2, tyX2_ok, nmX2, by decide, tb_1 (i := 42) (by decide +kernel) rfl, rfl, by decide +kernel⟩
theorem fX3_66 : v_FL RX3 66 2 7 := ⟨RX2, TX2, 11, tyX2, rfl, inX2, tyX2_ok, nmX2, by decide, tb_1 (i := 43) (by decide +kernel) rfl⟩
theorem pX3_66 : v_FP RX3 66 2 7 := ⟨RX2, TX2, 11, tyX2, rfl, inX2, tyX2_ok, nmX2, by decide, tb_1 (i := 43) (by decide +kernel) rfl, rfl, by decide +kernel⟩
theorem fX0_122 : v_FL RX0 122 2 7 := ⟨RX2, TX2, 11, tyX2, rfl, inX2, tyX2_ok, nmX2, by decide, tb_1 (i := 44) (by decide +kernel) rfl⟩
theorem pX0_122 : v_FP RX0 122 2 7 := ⟨RX2, TX2, 11, tyX2, rfl, inX2, tyX2_ok, nmX2, by decide, tb_1 (i := 44) (by decide +kernel) rfl, rfl, by decide +kernel⟩
theorem fX2_51 : v_FL RX2 51 2 8 := ⟨RX2, TX2, 11, tyX2, rfl, inX2, tyX2_ok, nmX2, by decide, tb_1 (i := 45) (by decide +kernel) rfl⟩
theorem pX2_51 : v_FP RX2 51 2 8 := ⟨RX2, TX2, 11, tyX2, rfl, inX2, tyX2_ok, nmX2, by decide, tb_1 (i := 45) (by decide +kernel) rfl, rfl, by decide +kernel⟩
theorem fX3_87 : v_FL RX3 87 2 8 := ⟨RX2, TX2, 11, tyX2, rfl, inX2, tyX2_ok, nmX2, by decide, tb_1 (i := 46) (by decide +kernel) rfl⟩
theorem pX3_87 : v_FP RX3 87 2 8 := ⟨RX2, TX2, 11, tyX2, rfl, inX2, tyX2_ok, nmX2, by decide, tb_1 (i := 46) (by decide +kernel) rfl, rfl, by decide +kernel⟩
theorem fX2_45 : v_FL RX2 45 2 9 := ⟨RX2, TX2, 11, tyX2, rfl, inX2, tyX2_ok, nmX2, by decide, tb_1 (i := 47) (by decide +kernel) rfl⟩
theorem pX2_45 : v_FP RX2 45 2 9 := ⟨RX2, TX2, 11, tyX2, rfl, inX2, tyX2_ok, nmX2, by decide, tb_1 (i := 47) (by decide +kernel) rfl, rfl, by decide +kernel⟩
theorem fX3_90 : v_FL RX3 90 2 9 := ⟨RX2, TX2, 11, tyX2, rfl, inX2, tyX2_ok, nmX2, by decide, tb_1 (i := 48) (by decide +kernel) rfl⟩
theorem pX3_90 : v_FP RX3 90 2 9 := ⟨RX2, TX2, 11, tyX2, rfl, inX2, tyX2_ok, nmX2, by decide, tb_1 (i := 48) (by decide +kernel) rfl, rfl, by decide +kernel⟩
theorem fX2_48 : v_FL RX2 48 2 10 := ⟨RX2, TX2, 11, tyX2, rfl, inX2, tyX2_ok, nmX2, by decide, tb_1 (i := 49) (by decide +kernel) rfl⟩
theorem pX2_48 : v_FP RX2 48 2 10 := ⟨RX2, TX2, 11, tyX2, rfl, inX2, tyX2_ok, nmX2, by decide, tb_1 (i := 49) (by decide +kernel) rfl, rfl, by decide +kernel⟩
theorem fX3_93 : v_FL RX3 93 2 10 := ⟨RX2, TX2, 11, tyX2, rfl, inX2, tyX2_ok, nmX2, by decide, tb_1 (i := 50) (by decide +kernel) rfl⟩
theorem pX3_93 : v_FP RX3 93 2 10 := ⟨RX2, TX2, 11, tyX2, rfl, inX2, tyX2_ok, nmX2, by decide, tb_1 (i := 50) (by decide +kernel) rfl, rfl, by decide +kernel⟩
theorem fX1_9 : v_FL RX1 9 1 0 := ⟨RX1, TX1, 6, tyX1, rfl, inX1, tyX1_ok, nmX1, by decide, tb_1 (i := 81) (by decide +kernel) rfl⟩
theorem fX3_153 : v_FL RX3 153 1 0 := ⟨RX1, TX1, 6, tyX1, rfl, inX1, tyX1_ok, nmX1, by decide, tb_1 (i := 82) (by decide +kernel) rfl⟩
theorem fX1_15 : v_FL RX1 15 1 1 := ⟨RX1, TX1, 6, tyX1, rfl, inX1, tyX1_ok, nmX1, by decide, tb_1 (i := 83) (by decide +kernel) rfl⟩
theorem fX3_156 : v_FL RX3 156 1 1 := ⟨RX1, TX1, 6, tyX1, rfl, inX1, tyX1_ok, nmX1, by decide, tb_1 (i := 84) (by decide +kernel) rfl⟩
theorem fX1_18 : v_FL RX1 18 1 2 := ⟨RX1, TX1, 6, tyX1, rfl, inX1, tyX1_ok, nmX1, by decide, tb_1 (i := 85) (by decide +kernel) rfl⟩
theorem fX3_159 : v_FL RX3 159 1 2 := ⟨RX1, TX1, 6, tyX1, rfl, inX1, tyX1_ok, nmX1, by decide, tb_1 (i := 86) (by decide +kernel) rfl⟩
theorem fX1_21 : v_FL RX1 21 1 3 := ⟨RX1, TX1, 6, tyX1, rfl, inX1, tyX1_ok, nmX1, by decide, tb_1 (i := 87) (by decide +kernel) rfl⟩
theorem fX3_166 : v_FL RX3 166 1 3 := ⟨RX1, TX1, 6, tyX1, rfl, inX1, tyX1_ok, nmX1, by decide, tb_1 (i := 88) (by decide +kernel) rfl⟩
theorem fX1_32 : v_FL RX1 32 1 4 := ⟨RX1, TX1, 6, tyX1, rfl, inX1, tyX1_ok, nmX1, by decide, tb_1 (i := 89) (by decide +kernel) rfl⟩
theorem pX1_32 : v_FP RX1 32 1 4 := ⟨RX1, TX1, 6, tyX1, rfl, inX1, tyX1_ok, nmX1, by decide, tb_1 (i := 89) (by decide +kernel) rfl, rfl, by decide +kernel⟩
theorem fX3_150 : v_FL RX3 150 1 4 := ⟨RX1, TX1, 6, tyX1, rfl, inX1, tyX1_ok, nmX1, by decide, tb_1 (i := 90) (by decide +kernel) rfl⟩
theorem pX3_150 : v_FP RX3 150 1 4 := ⟨RX1, TX1, 6, tyX1, rfl, inX1, tyX1_ok, nmX1, by decide, tb_1 (i := 90) (by decide +kernel) rfl, rfl, by decide +kernel⟩
theorem fX1_28 : v_FL RX1 28 1 5 := ⟨RX1, TX1, 6, tyX1, rfl, inX1, tyX1_ok, nmX1, by decide, tb_1 (i := 91) (by decide +kernel) rfl⟩
theorem pX1_28 : v_FP RX1 28 1 5 := ⟨RX1, TX1, 6, tyX1, rfl, inX1, tyX1_ok, nmX1, by decide, tb_1 (i := 91) (by decide +kernel) rfl, rfl, by decide +kernel⟩
theorem fX3_147 : v_FL RX3 147 1 5 := ⟨RX1, TX1, 6, tyX1, rfl, inX1, tyX1_ok, nmX1, by decide, tb_1 (i := 92) (by decide +kernel) rfl⟩
theorem pX3_147 : v_FP RX3 147 1 5 := ⟨RX1, TX1, 6, tyX1, rfl, inX1, tyX1_ok, nmX1, by decide, tb_1 (i := 92) (by decide +kernel) rfl, rfl, by decide +kernel⟩
theorem fX0_33 : v_FL RX0 33 0 0 := ⟨RX0, TX0, 14, tyX0, rfl, inX0, tyX0_ok, nmX0, by decide, tb_1 (i := 112) (by decide +kernel) rfl⟩
theorem fX0_37 : v_FL RX0 37 0 1 := ⟨RX0, TX0, 14, tyX0, rfl, inX0, tyX0_ok, nmX0, by decide, tb_1 (i := 113) (by decide +kernel) rfl⟩
theorem fX0_9 : v_FL RX0 9 0 2 := ⟨RX0, TX0, 14, tyX0, rfl, inX0, tyX0_ok, nmX0, by decide, tb_1 (i := 114) (by decide +kernel) rfl⟩
theorem fX3_73 : v_FL RX3 73 0 2 := ⟨RX0, TX0, 14, tyX0, rfl, inX0, tyX0_ok, nmX0, by decide, tb_1 (i := 115) (by decide +kernel) rfl⟩
theorem fX0_15 : v_FL RX0 15 0 3 := ⟨RX0, TX0, 14, tyX0, rfl, inX0, tyX0_ok, nmX0, by decide, tb_1 (i := 116) (by decide +kernel) rfl⟩
theorem fX3_114 : v_FL RX3 114 0 3 := ⟨RX0, TX0, 14, tyX0, rfl, inX0, tyX0_ok, nmX0, by decide, tb_1 (i := 117) (by decide +kernel) rfl⟩
theorem fX0_18 : v_FL RX0 18 0 4 := ⟨RX0, TX0, 14, tyX0, rfl, inX0, tyX0_ok, nmX0, by decide, tb_1 (i := 118) (by decide +kernel) rfl⟩
theorem fX3_117 : v_FL RX3 117 0 4 := ⟨RX0, TX0, 14, tyX0, rfl, inX0, tyX0_ok, nmX0, by decide, tb_1 (i := 119) (by decide +kernel) rfl⟩
theorem fX0_21 : v_FL RX0 21 0 5 := ⟨RX0, TX0, 14, tyX0, rfl, inX0, tyX0_ok, nmX0, by decide, tb_1 (i := 120) (by decide +kernel) rfl⟩
theorem fX3_120 : v_FL RX3 120 0 5 := ⟨RX0, TX0, 14, tyX0, rfl, inX0, tyX0_ok, nmX0, by decide, tb_1 (i := 121) (by decide +kernel) rfl⟩
theorem fX0_24 : v_FL RX0 24 0 6 := ⟨RX0, TX0, 14, tyX0, rfl, inX0, tyX0_ok, nmX0, by decide, tb_1 (i := 122) (by decide +kernel) rfl⟩
theorem fX3_123 : v_FL RX3 123 0 6 := ⟨RX0, TX0, 14, tyX0, rfl, inX0, tyX0_ok, nmX0, by decide, tb_1 (i := 123) (by decide +kernel) rfl⟩
theorem fX0_27 : v_FL RX0 27 0 7 := ⟨RX0, TX0, 14, tyX0, rfl, inX0, tyX0_ok, nmX0, by decide, tb_1 (i := 124) (by decide +kernel) rfl⟩
theorem fX3_126 : v_FL RX3 126 0 7 := ⟨RX0, TX0, 14, tyX0, rfl, inX0, tyX0_ok, nmX0, by decide, tb_1 (i := 125) (by decide +kernel) rfl⟩
theorem fX0_30 : v_FL RX0 30 0 8 := ⟨RX0, TX0, 14, tyX0, rfl, inX0, tyX0_ok, nmX0, by decide, tb_1 (i := 126) (by decide +kernel) rfl⟩
theorem fX3_129 : v_FL RX3 129 0 8 := ⟨RX0, TX0, 14, tyX0, rfl, inX0, tyX0_ok, nmX0, by decide, tb_1 (i := 127) (by decide +kernel) rfl⟩
theorem fX0_59 : v_FL RX0 59 0 9 := ⟨RX0, TX0, 14, tyX0, rfl, inX0, tyX0_ok, nmX0, by decide, tb_1 (i := 128) (by decide +kernel) rfl⟩
theorem pX0_59 : v_FP RX0 59 0 9 := ⟨RX0, TX0, 14, tyX0, rfl, inX0, tyX0_ok, nmX0, by decide, tb_1 (i := 128) (by decide +kernel) rfl, rfl, by decide +kernel⟩
theorem fX3_132 : v_FL RX3 132 0 9 := ⟨RX0, TX0, 14, tyX0, rfl, inX0, tyX0_ok, nmX0, by decide, tb_1 (i := 129) (by decide +kernel) rfl⟩
theorem pX3_132 : v_FP RX3 132 0 9 := ⟨RX0, TX0, 14, tyX0, rfl, inX0, tyX0_ok, nmX0, by decide, tb_1 (i := 129) (by decide +kernel) rfl, rfl, by decide +kernel⟩
theorem fX0_109 : v_FL RX0 109 0 10 := ⟨RX0, TX0, 14, tyX0, rfl, inX0, tyX0_ok, nmX0, by decide, tb_1 (i := 130) (by decide +kernel) rfl⟩
theorem pX0_109 : v_FP RX0 109 0 10 := ⟨RX0, TX0, 14, tyX0, rfl, inX0, tyX0_ok, nmX0, by decide, tb_1 (i := 130) (by decide +kernel) rfl, rfl, by decide +kernel⟩
theorem fX3_135 : v_FL RX3 135 0 10 := ⟨RX0, TX0, 14, tyX0, rfl, inX0, tyX0_ok, nmX0, by decide, tb_1 (i := 131) (by decide +kernel) rfl⟩
theorem pX3_135 : v_FP RX3 135 0 10 := ⟨RX0, TX0, 14, tyX0, rfl, inX0, tyX0_ok, nmX0, by decide, tb_1 (i := 131) (by decide +kernel) rfl, rfl, by decide +kernel⟩
theorem fX0_78 : v_FL RX0 78 0 11 := ⟨RX0, TX0, 14, tyX0, rfl, inX0, tyX0_ok, nmX0, by decide, tb_1 (i := 132) (by decide +kernel) rfl⟩
theorem pX0_78 : v_FP RX0 78 0 11 := ⟨RX0, TX0, 14, tyX0, rfl, inX0, tyX0_ok, nmX0, by decide, tb_1 (i := 132) (by decide +kernel) rfl, rfl, by decide +kernel⟩
theorem fX3_138 : v_FL RX3 138 0 11 := ⟨RX0, TX0, 14, tyX0, rfl, inX0, tyX0_ok, nmX0, by decide, tb_1 (i := 133) (by decide +kernel) rfl⟩
theorem pX3_138 : v_FP RX3 138 0 11 := ⟨RX0, TX0, 14, tyX0, rfl, inX0, tyX0_ok, nmX0, by decide, tb_1 (i := 133) (by decide +kernel) rfl, rfl, by decide +kernel⟩
theorem fX0_75 : v_FL RX0 75 0 12 := ⟨RX0, TX0, 14, tyX0, rfl, inX0, tyX0_ok, nmX0, by decide, tb_1 (i := 134) (by decide +kernel) rfl⟩
theorem pX0_75 : v_FP RX0 75 0 12 := ⟨RX0, TX0, 14, tyX0, rfl, inX0, tyX0_ok, nmX0, by decide, tb_1 (i := 134) (by decide +kernel) rfl, rfl, by decide +kernel⟩
theorem fX3_141 : v_FL RX3 141 0 12 := ⟨RX0, TX0, 14, tyX0, rfl, inX0, tyX0_ok, nmX0, by decide, tb_1 (i := 135) (by decide +kernel) rfl⟩
theorem pX3_141 : v_FP RX3 141 0 12 := ⟨RX0, TX0, 14, tyX0, rfl, inX0, tyX0_ok, nmX0, by decide, tb_1 (i := 135) (by decide +kernel) rfl, rfl, by decide +kernel⟩
theorem fX0_85 : v_FL RX0 85 0 13 := ⟨RX0, TX0, 14, tyX0, rfl, inX0, tyX0_ok, nmX0, by decide, tb_1 (i := 136) (by decide +kernel) rfl⟩
theorem pX0_85 : v_FP RX0 85 0 13 := ⟨RX0, TX0, 14, tyX0, rfl, inX0, tyX0_ok, nmX0, by decide, tb_1 (i := 136) (by decide +kernel) rfl, rfl, by decide +kernel⟩
theorem fX3_144 : v_FL RX3 144 0 13 := ⟨RX0, TX0, 14, tyX0, rfl, inX0, tyX0_ok, nmX0, by decide, tb_1 (i := 137) (by decide +kernel) rfl⟩
theorem pX3_144 : v_FP RX3 144 0 13 := ⟨RX0, TX0, 14, tyX0, rfl, inX0, tyX0_ok, nmX0, by decide, tb_1 (i := 137) (by decide +kernel) rfl, rfl, by decide +kernel⟩
theorem fX3_10 : v_FL RX3 10 3 0 := ⟨RX3, TX3, 6, tyX3, rfl, inX3, tyX3_ok, nmX3, by decide, tb_1 (i := 168) (by decide +kernel) rfl⟩
theorem fX3_19 : v_FL RX3 19 3 1 := ⟨RX3, TX3, 6, tyX3, rfl, inX3, tyX3_ok, nmX3, by decide, tb_1 (i := 169) (by decide +kernel) rfl⟩
theorem fX3_28 : v_FL RX3 28 3 2 := ⟨RX3, TX3, 6, tyX3, rfl, inX3, tyX3_ok, nmX3, by decide, tb_1 (i := 170) (by decide +kernel) rfl⟩
theorem fX3_32 : v_FL RX3 32 3 3 := ⟨RX3, TX3, 6, tyX3, rfl, inX3, tyX3_ok, nmX3, by decide, tb_1 (i := 171) (by decide +kernel) rfl⟩
theorem fX3_96 : v_FL RX3 96 3 4 := ⟨RX3, TX3, 6, tyX3, rfl, inX3, tyX3_ok, nmX3, by decide, tb_1 (i := 172) (by decide +kernel) rfl⟩
theorem pX3_96 : v_FP RX3 96 3 4 := ⟨RX3, TX3, 6, tyX3, rfl, inX3, tyX3_ok, nmX3, by decide, tb_1 (i := 172) (by decide +kernel) rfl, rfl, by decide +kernel⟩
theorem fX3_48 : v_FL RX3 48 3 5 := ⟨RX3, TX3, 6, tyX3, rfl, inX3, tyX3_ok, nmX3, by decide, tb_1 (i := 173) (by decide +kernel) rfl⟩
theorem pX3_48 : v_FP RX3 48 3 5 := ⟨RX3, TX3, 6, tyX3, rfl, inX3, tyX3_ok, nmX3, by decide, tb_1 (i := 173) (by decide +kernel) rfl, rfl, by decide +kernel⟩
theorem fX4_74 : v_FL RX4 74 4 0 := ⟨RX4, TX4, 29, tyX4, rfl, inX4, tyX4_ok, nmX4, by decide, tb_2 (i := 120) (by decide +kernel) rfl⟩
theorem pX4_74 : v_FP RX4 74 4 0 := ⟨RX4, TX4, 29, tyX4, rfl, inX4, tyX4_ok, nmX4, by decide, tb_2 (i := 120) (by decide +kernel) rfl, rfl, by decide +kernel⟩
theorem fX4_113 : v_FL RX4 113 4 1 := ⟨RX4, TX4, 29, tyX4, rfl, inX4, tyX4_ok, nmX4, by decide, tb_2 (i := 121) (by decide +kernel) rfl⟩
theorem pX4_113 : v_FP RX4 113 4 1 := ⟨RX4, TX4, 29, tyX4, rfl, inX4, tyX4_ok, nmX4, by decide, tb_2 (i := 121) (by decide +kernel) rfl, rfl, by decide +kernel⟩
theorem fX4_81 : v_FL RX4 81 4 2 := ⟨RX4, TX4, 29, tyX4, rfl, inX4, tyX4_ok, nmX4, by decide, tb_2 (i := 122) (by decide +kernel) rfl⟩
theorem pX4_81 : v_FP RX4 81 4 2 := ⟨RX4, TX4, 29, tyX4, rfl, inX4, tyX4_ok, nmX4, by decide, tb_2 (i := 122) (by decide +kernel) rfl, rfl, by decide +kernel⟩
theorem fX4_7 : v_FL RX4 7 4 3 := ⟨RX4, TX4, 29, tyX4, rfl, inX4, tyX4_ok, nmX4, by decide, tb_2 (i := 123) (by decide +kernel) rfl⟩
theorem pX4_7 : v_FP RX4 7 4 3 := ⟨RX4, TX4, 29, tyX4, rfl, inX4, tyX4_ok, nmX4, by decide, tb_2 (i := 123) (by decide +kernel) rfl, rfl, by decide +kernel⟩
theorem fX4_13 : v_FL RX4 13 4 4 := ⟨RX4, TX4, 29, tyX4, rfl, inX4, tyX4_ok, nmX4, by decide, tb_2 (i := 124) (by decide +kernel) rfl⟩
theorem pX4_13 : v_FP RX4 13 4 4 := ⟨RX4, TX4, 29, tyX4, rfl, inX4, tyX4_ok, nmX4, by decide, tb_2 (i := 124) (by decide +kernel) rfl, rfl, by decide +kernel⟩
theorem fX4_96 : v_FL RX4 96 4 5 := ⟨RX4, TX4, 29, tyX4, rfl, inX4, tyX4_ok, nmX4, by decide, tb_2 (i := 125) (by decide +kernel) rfl⟩
theorem pX4_96 : v_FP RX4 96 4 5 := ⟨RX4, TX4, 29, tyX4, rfl, inX4, tyX4_ok, nmX4, by decide, tb_2 (i := 125) (by decide +kernel) rfl, rfl, by decide +kernel⟩
theorem fX4_99 : v_FL RX4 99 4 6 := ⟨RX4, TX4, 29, tyX4, rfl, inX4, tyX4_ok, nmX4, by decide, tb_2 (i := 126) (by decide +kernel) rfl⟩
theorem pX4_99 : v_FP RX4 99 4 6 := ⟨RX4, TX4, 29, tyX4, rfl, inX4, tyX4_ok, nmX4, by decide, tb_2 (i := 126) (by decide +kernel) rfl, rfl, by decide +kernel⟩
theorem fX4_102 : v_FL RX4 102 4 7 := ⟨RX4, TX4, 29, tyX4, rfl, inX4, tyX4_ok, nmX4, by decide, tb_2 (i := 127) (by decide +kernel) rfl⟩
theorem pX4_102 : v_FP RX4 102 4 7 := ⟨RX4, TX4, 29, tyX4, rfl, inX4, tyX4_ok, nmX4, by decide, tb_2 (i := 127) (by decide +kernel) rfl, rfl, by decide +kernel⟩
theorem fX4_16 : v_FL RX4 16 4 8 := ⟨RX4, TX4, 29, tyX4, rfl, inX4, tyX4_ok, nmX4, by decide, tb_2 (i := 128) (by decide +kernel) rfl⟩
theorem fX4_20 : v_FL RX4 20 4 9 := ⟨RX4, TX4, 29, tyX4, rfl, inX4, tyX4_ok, nmX4, by decide, tb_2 (i := 129) (by decide +kernel) rfl⟩
theorem fX4_23 : v_FL RX4 23 4 10 := ⟨RX4, TX4, 29, tyX4, rfl, inX4, tyX4_ok, nmX4, by decide, tb_2 (i := 130) (by decide +kernel) rfl⟩
theorem fX4_26 : v_FL RX4 26 4 11 := ⟨RX4, TX4, 29, tyX4, rfl, inX4, tyX4_ok, nmX4, by decide, tb_2 (i := 131) (by decide +kernel) rfl⟩
theorem fX4_29 : v_FL RX4 29 4 12 := ⟨RX4, TX4, 29, tyX4, rfl, inX4, tyX4_ok, nmX4, by decide, tb_2 (i := 132) (by decide +kernel) rfl⟩
theorem fX4_32 : v_FL RX4 32 4 13 := ⟨RX4, TX4, 29, tyX4, rfl, inX4, tyX4_ok, nmX4, by decide, tb_2 (i := 133) (by decide +kernel) rfl⟩
theorem fX4_35 : v_FL RX4 35 4 14 := ⟨RX4, TX4, 29, tyX4, rfl, inX4, tyX4_ok, nmX4, by decide, tb_2 (i := 134) (by decide +kernel) rfl⟩
theorem fX4_38 : v_FL RX4 38 4 15 := ⟨RX4, TX4, 29, tyX4, rfl, inX4, tyX4_ok, nmX4, by decide, tb_2 (i := 135) (by decide +kernel) rfl⟩
theorem fX4_41 : v_FL RX4 41 4 16 := ⟨RX4, TX4, 29, tyX4, rfl, inX4, tyX4_ok, nmX4, by decide, tb_2 (i := 136) (by decide +kernel) rfl⟩
theorem fX4_44 : v_FL RX4 44 4 17 := ⟨RX4, TX4, 29, tyX4, rfl, inX4, tyX4_ok, nmX4, by decide, tb_2 (i := 137) (by decide +kernel) rfl⟩
theorem fX4_47 : v_FL RX4 47 4 18 := ⟨RX4, TX4, 29, tyX4, rfl, inX4, tyX4_ok, nmX4, by decide, tb_2 (i := 138) (by decide +kernel) rfl⟩
theorem fX4_50 : v_FL RX4 50 4 19 := ⟨RX4, TX4, 29, tyX4, rfl, inX4, tyX4_ok, nmX4, by decide, tb_2 (i := 139) (by decide +kernel) rfl⟩
theorem fX4_53 : v_FL RX4 53 4 20 := ⟨RX4, TX4, 29, tyX4, rfl, inX4, tyX4_ok, nmX4, by decide, tb_2 (i := 140) (by decide +kernel) rfl⟩
theorem fX4_56 : v_FL RX4 56 4 21 := ⟨RX4, TX4, 29, tyX4, rfl, inX4, tyX4_ok, nmX4, by decide, tb_2 (i := 141) (by decide +kernel) rfl⟩
theorem fX4_59 : v_FL RX4 59 4 22 := ⟨RX4, TX4, 29, tyX4, rfl, inX4, tyX4_ok, nmX4, by decide, tb_2 (i := 142) (by decide +kernel) rfl⟩
theorem fX4_123 : v_FL RX4 123 4 23 := ⟨RX4, TX4, 29, tyX4, rfl, inX4, tyX4_ok, nmX4, by decide, tb_2 (i := 143) (by decide +kernel) rfl⟩
theorem pX4_123 : v_FP RX4 123 4 23 := ⟨RX4, TX4, 29, tyX4, rfl, inX4, tyX4_ok, nmX4, by decide, tb_2 (i := 143) (by decide +kernel) rfl, rfl, by decide +kernel⟩
theorem fX4_116 : v_FL RX4 116 4 24 := ⟨RX4, TX4, 29, tyX4, rfl, inX4, tyX4_ok, nmX4, by decide, tb_2 (i := 144) (by decide +kernel) rfl⟩
theorem pX4_116 : v_FP RX4 116 4 24 := ⟨RX4, TX4, 29, tyX4, rfl, inX4, tyX4_ok, nmX4, by decide, tb_2 (i := 144) (by decide +kernel) rfl, rfl, by decide +kernel⟩
theorem fX4_62 : v_FL RX4 62 4 25 := ⟨RX4, TX4, 29, tyX4, rfl, inX4, tyX4_ok, nmX4, by decide, tb_2 (i := 145) (by decide +kernel) rfl⟩
theorem fX4_65 : v_FL RX4 65 4 26 := ⟨RX4, TX4, 29, tyX4, rfl, inX4, tyX4_ok, nmX4, by decide, tb_2 (i := 146) (by decide +kernel) rfl⟩
theorem fX4_68 : v_FL RX4 68 4 27 := ⟨RX4, TX4, 29, tyX4, rfl, inX4, tyX4_ok, nmX4, by decide, tb_2 (i := 147) (by decide +kernel) rfl⟩
theorem fX4_71 : v_FL RX4 71 4 28 := ⟨RX4, TX4, 29, tyX4, rfl, inX4, tyX4_ok, nmX4, by decide, tb_2 (i := 148) (by decide +kernel) rfl⟩
theorem YX3_init : v_Y yX3_init cX3_init 2 none 0 := ⟨tb_1 (i := 11) (by decide +kernel) rfl, tb_1 (i := 1) (by decide +kernel) rfl, by decide +kernel, by decide +kernel, by decide +kernel⟩
theorem YX2_init : v_Y yX2_init cX2_init 1 none 0 := ⟨tb_1 (i := 19) (by decide +kernel) rfl, tb_1 (i := 2) (by decide +kernel) rfl, by decide +kernel, by decide +kernel, by decide +kernel⟩
theorem YX1_init : v_Y yX1_init cX1_init 1 none 0 := ⟨tb_1 (i := 79) (by decide +kernel) rfl, tb_1 (i := 3) (by decide +kernel) rfl, by decide +kernel, by decide +kernel, by decide +kernel⟩
theorem YX0_init : v_Y yX0_init cX0_init 3 none 2 := ⟨tb_1 (i := 110) (by decide +kernel) rfl, tb_1 (i := 4) (by decide +kernel) rfl, by decide +kernel, by decide +kernel, by decide +kernel⟩
theorem YX3_hatch : v_Y yX3_hatch cX3_hatch 4 (some .int) 3 := ⟨tb_1 (i := 190) (by decide +kernel) rfl, tb_1 (i := 1) (by decide +kernel) rfl, by decide +kernel, by decide +kernel, by decide +kernel⟩
theorem YX3_isWithin : v_Y yX3_isWithin cX3_isWithin 3 (some .boolean) 3 := ⟨tb_1 (i := 193) (by decide +kernel) rfl, tb_1 (i := 1) (by decide +kernel) rfl, by decide +kernel, by decide +kernel, by decide +kernel⟩
theorem YX3_hasAllDeeds : v_Y yX3_hasAllDeeds cX3_hasAllDeeds 1 (some .boolean) 0 := ⟨tb_1 (i := 197) (by decide +kernel) rfl, tb_1 (i := 1) (by decide +kernel) rfl, by decide +kernel, by decide +kernel, by decide +kernel⟩
theorem YX2_addHatch : v_Y yX2_addHatch cX2_addHatch 5 (some .int) 3 := ⟨tb_1 (i := 201) (by decide +kernel) rfl, tb_1 (i := 2) (by decide +kernel) rfl, by decide +kernel, by decide +kernel, by decide +kernel⟩
theorem YX3_open : v_Y yX3_open cX3_open 4 (some .int) 2 := ⟨tb_1 (i := 205) (by decide +kernel) rfl, tb_1 (i := 1) (by decide +kernel) rfl, by decide +kernel, by decide +kernel, by decide +kernel⟩
theorem YX2_isHatch : v_Y yX2_isHatch cX2_isHatch 2 (some .boolean) 1 := ⟨tb_1 (i := 209) (by decide +kernel) rfl, tb_1 (i := 2) (by decide +kernel) rfl, by decide +kernel, by decide +kernel, by decide +kernel⟩
theorem YX3_flow : v_Y yX3_flow cX3_flow 3 (some .int) 1 := ⟨tb_1 (i := 213) (by decide +kernel) rfl, tb_1 (i := 1) (by decide +kernel) rfl, by decide +kernel, by decide +kernel, by decide +kernel⟩
theorem YX3_air : v_Y yX3_air cX3_air 3 (some .int) 1 := ⟨tb_1 (i := 217) (by decide +kernel) rfl, tb_1 (i := 1) (by decide +kernel) rfl, by decide +kernel, by decide +kernel, by decide +kernel⟩
theorem YX3_dig : v_Y yX3_dig cX3_dig 4 (some .int) 1 := ⟨tb_1 (i := 221) (by decide +kernel) rfl, tb_1 (i := 1) (by decide +kernel) rfl, by decide +kernel, by decide +kernel, by decide +kernel⟩
theorem YX0_siltOf : v_Y yX0_siltOf cX0_siltOf 2 (some .int) 1 := ⟨tb_1 (i := 225) (by decide +kernel) rfl, tb_1 (i := 4) (by decide +kernel) rfl, by decide +kernel, by decide +kernel, by decide +kernel⟩
theorem YX3_sheep : v_Y yX3_sheep cX3_sheep 6 (some .int) 3 := ⟨tb_1 (i := 229) (by decide +kernel) rfl, tb_1 (i := 1) (by decide +kernel) rfl, by decide +kernel, by decide +kernel, by decide +kernel⟩
theorem YX2_isPane : v_Y yX2_isPane cX2_isPane 3 (some .boolean) 2 := ⟨tb_1 (i := 233) (by decide +kernel) rfl, tb_1 (i := 2) (by decide +kernel) rfl, by decide +kernel, by decide +kernel, by decide +kernel⟩
theorem YX3_placeOf : v_Y yX3_placeOf cX3_placeOf 2 (some .int) 2 := ⟨tb_1 (i := 237) (by decide +kernel) rfl, tb_1 (i := 1) (by decide +kernel) rfl, by decide +kernel, by decide +kernel, by decide +kernel⟩
theorem YX3_right : v_Y yX3_right cX3_right 5 (some .int) 3 := ⟨tb_2 (i := 1) (by decide +kernel) rfl, tb_1 (i := 1) (by decide +kernel) rfl, by decide +kernel, by decide +kernel, by decide +kernel⟩
theorem YX3_hours : v_Y yX3_hours cX3_hours 3 (some .int) 1 := ⟨tb_2 (i := 5) (by decide +kernel) rfl, tb_1 (i := 1) (by decide +kernel) rfl, by decide +kernel, by decide +kernel, by decide +kernel⟩
theorem YX3_advance : v_Y yX3_advance cX3_advance 2 none 0 := ⟨tb_2 (i := 9) (by decide +kernel) rfl, tb_1 (i := 1) (by decide +kernel) rfl, by decide +kernel, by decide +kernel, by decide +kernel⟩
theorem YX0_passHour : v_Y yX0_passHour cX0_passHour 4 none 1 := ⟨tb_2 (i := 13) (by decide +kernel) rfl, tb_1 (i := 4) (by decide +kernel) rfl, by decide +kernel, by decide +kernel, by decide +kernel⟩
theorem YX0_takeIn : v_Y yX0_takeIn cX0_takeIn 4 none 2 := ⟨tb_2 (i := 17) (by decide +kernel) rfl, tb_1 (i := 4) (by decide +kernel) rfl, by decide +kernel, by decide +kernel, by decide +kernel⟩
theorem YX0_mostOf : v_Y yX0_mostOf cX0_mostOf 2 (some .int) 1 := ⟨tb_2 (i := 21) (by decide +kernel) rfl, tb_1 (i := 4) (by decide +kernel) rfl, by decide +kernel, by decide +kernel, by decide +kernel⟩
theorem YX0_soakPanes : v_Y yX0_soakPanes cX0_soakPanes 9 (some .int) 1 := ⟨tb_2 (i := 32) (by decide +kernel) rfl, tb_1 (i := 4) (by decide +kernel) rfl, by decide +kernel, by decide +kernel, by decide +kernel⟩
theorem YX0_tendPanes : v_Y yX0_tendPanes cX0_tendPanes 6 none 2 := ⟨tb_2 (i := 37) (by decide +kernel) rfl, tb_1 (i := 4) (by decide +kernel) rfl, by decide +kernel, by decide +kernel, by decide +kernel⟩
theorem YX2_isGrazing : v_Y yX2_isGrazing cX2_isGrazing 2 (some .boolean) 1 := ⟨tb_2 (i := 41) (by decide +kernel) rfl, tb_1 (i := 2) (by decide +kernel) rfl, by decide +kernel, by decide +kernel, by decide +kernel⟩
theorem YX0_growGrass : v_Y yX0_growGrass cX0_growGrass 4 none 1 := ⟨tb_2 (i := 46) (by decide +kernel) rfl, tb_1 (i := 4) (by decide +kernel) rfl, by decide +kernel, by decide +kernel, by decide +kernel⟩
theorem YX0_grazePane : v_Y yX0_grazePane cX0_grazePane 3 none 1 := ⟨tb_2 (i := 50) (by decide +kernel) rfl, tb_1 (i := 4) (by decide +kernel) rfl, by decide +kernel, by decide +kernel, by decide +kernel⟩
theorem YX0_isMillShort : v_Y yX0_isMillShort cX0_isMillShort 2 (some .boolean) 1 := ⟨tb_2 (i := 54) (by decide +kernel) rfl, tb_1 (i := 4) (by decide +kernel) rfl, by decide +kernel, by decide +kernel, by decide +kernel⟩
theorem YX2_rightAt : v_Y yX2_rightAt cX2_rightAt 4 (some .int) 1 := ⟨tb_2 (i := 58) (by decide +kernel) rfl, tb_1 (i := 2) (by decide +kernel) rfl, by decide +kernel, by decide +kernel, by decide +kernel⟩
theorem YX2_isLawless : v_Y yX2_isLawless cX2_isLawless 1 (some .boolean) 0 := ⟨tb_2 (i := 62) (by decide +kernel) rfl, tb_1 (i := 2) (by decide +kernel) rfl, by decide +kernel, by decide +kernel, by decide +kernel⟩
theorem YX3_judgeHour : v_Y yX3_judgeHour cX3_judgeHour 4 none 0 := ⟨tb_2 (i := 66) (by decide +kernel) rfl, tb_1 (i := 1) (by decide +kernel) rfl, by decide +kernel, by decide +kernel, by decide +kernel⟩
theorem YX2_isOutOfTurn : v_Y yX2_isOutOfTurn cX2_isOutOfTurn 4 (some .boolean) 2 := ⟨tb_2 (i := 70) (by decide +kernel) rfl, tb_1 (i := 2) (by decide +kernel) rfl, by decide +kernel, by decide +kernel, by decide +kernel⟩
theorem YX1_enterTurn : v_Y yX1_enterTurn cX1_enterTurn 4 none 3 := ⟨tb_2 (i := 74) (by decide +kernel) rfl, tb_1 (i := 3) (by decide +kernel) rfl, by decide +kernel, by decide +kernel, by decide +kernel⟩
theorem YX1_enter : v_Y yX1_enter cX1_enter 4 none 3 := ⟨tb_2 (i := 78) (by decide +kernel) rfl, tb_1 (i := 3) (by decide +kernel) rfl, by decide +kernel, by decide +kernel, by decide +kernel⟩
theorem YX3_told : v_Y yX3_told cX3_told 3 (some .int) 2 := ⟨tb_2 (i := 84) (by decide +kernel) rfl, tb_1 (i := 1) (by decide +kernel) rfl, by decide +kernel, by decide +kernel, by decide +kernel⟩
theorem YX3_pane : v_Y yX3_pane cX3_pane 5 (some .int) 3 := ⟨tb_2 (i := 89) (by decide +kernel) rfl, tb_1 (i := 1) (by decide +kernel) rfl, by decide +kernel, by decide +kernel, by decide +kernel⟩
theorem YX3_stream : v_Y yX3_stream cX3_stream 2 (some .int) 1 := ⟨tb_2 (i := 93) (by decide +kernel) rfl, tb_1 (i := 1) (by decide +kernel) rfl, by decide +kernel, by decide +kernel, by decide +kernel⟩
theorem YX3_broken : v_Y yX3_broken cX3_broken 3 (some .int) 2 := ⟨tb_2 (i := 97) (by decide +kernel) rfl, tb_1 (i := 1) (by decide +kernel) rfl, by decide +kernel, by decide +kernel, by decide +kernel⟩
theorem YX3_farm : v_Y yX3_farm cX3_farm 3 (some .int) 2 := ⟨tb_2 (i := 101) (by decide +kernel) rfl, tb_1 (i := 1) (by decide +kernel) rfl, by decide +kernel, by decide +kernel, by decide +kernel⟩
theorem YX0_sumOfFarm : v_Y yX0_sumOfFarm cX0_sumOfFarm 6 (some .int) 2 := ⟨tb_2 (i := 105) (by decide +kernel) rfl, tb_1 (i := 4) (by decide +kernel) rfl, by decide +kernel, by decide +kernel, by decide +kernel⟩
theorem YX3_without : v_Y yX3_without cX3_without 4 (some .int) 2 := ⟨tb_2 (i := 109) (by decide +kernel) rfl, tb_1 (i := 1) (by decide +kernel) rfl, by decide +kernel, by decide +kernel, by decide +kernel⟩
theorem YX3_count : v_Y yX3_count cX3_count 2 (some .int) 1 := ⟨tb_2 (i := 113) (by decide +kernel) rfl, tb_1 (i := 1) (by decide +kernel) rfl, by decide +kernel, by decide +kernel, by decide +kernel⟩
theorem YX4_init : v_Y yX4_init cX4_init 1 none 0 := ⟨tb_2 (i := 118) (by decide +kernel) rfl, tb_1 (i := 5) (by decide +kernel) rfl, by decide +kernel, by decide +kernel, by decide +kernel⟩
theorem YX4_hatch : v_Y yX4_hatch cX4_hatch 4 (some .int) 3 := ⟨tb_2 (i := 211) (by decide +kernel) rfl, tb_1 (i := 5) (by decide +kernel) rfl, by decide +kernel, by decide +kernel, by decide +kernel⟩
theorem YX4_in : v_Y yX4_in cX4_in 3 (some .boolean) 3 := ⟨tb_2 (i := 214) (by decide +kernel) rfl, tb_1 (i := 5) (by decide +kernel) rfl, by decide +kernel, by decide +kernel, by decide +kernel⟩
theorem YX4_isFull : v_Y yX4_isFull cX4_isFull 1 (some .boolean) 0 := ⟨tb_2 (i := 218) (by decide +kernel) rfl, tb_1 (i := 5) (by decide +kernel) rfl, by decide +kernel, by decide +kernel, by decide +kernel⟩
theorem YX4_open : v_Y yX4_open cX4_open 4 (some .int) 2 := ⟨tb_2 (i := 222) (by decide +kernel) rfl, tb_1 (i := 5) (by decide +kernel) rfl, by decide +kernel, by decide +kernel, by decide +kernel⟩
theorem YX4_isHatch : v_Y yX4_isHatch cX4_isHatch 2 (some .boolean) 1 := ⟨tb_2 (i := 226) (by decide +kernel) rfl, tb_1 (i := 5) (by decide +kernel) rfl, by decide +kernel, by decide +kernel, by decide +kernel⟩
theorem YX4_flow : v_Y yX4_flow cX4_flow 3 (some .int) 1 := ⟨tb_2 (i := 230) (by decide +kernel) rfl, tb_1 (i := 5) (by decide +kernel) rfl, by decide +kernel, by decide +kernel, by decide +kernel⟩
theorem YX4_air : v_Y yX4_air cX4_air 3 (some .int) 1 := ⟨tb_2 (i := 234) (by decide +kernel) rfl, tb_1 (i := 5) (by decide +kernel) rfl, by decide +kernel, by decide +kernel, by decide +kernel⟩
theorem YX4_dig : v_Y yX4_dig cX4_dig 4 (some .int) 1 := ⟨tb_2 (i := 238) (by decide +kernel) rfl, tb_1 (i := 5) (by decide +kernel) rfl, by decide +kernel, by decide +kernel, by decide +kernel⟩
theorem YX4_sheep : v_Y yX4_sheep cX4_sheep 5 (some .int) 3 := ⟨tb_3 (i := 2) (by decide +kernel) rfl, tb_1 (i := 5) (by decide +kernel) rfl, by decide +kernel, by decide +kernel, by decide +kernel⟩
theorem YX4_isPane : v_Y yX4_isPane cX4_isPane 3 (some .boolean) 2 := ⟨tb_3 (i := 6) (by decide +kernel) rfl, tb_1 (i := 5) (by decide +kernel) rfl, by decide +kernel, by decide +kernel, by decide +kernel⟩
theorem YX4_right : v_Y yX4_right cX4_right 5 (some .int) 3 := ⟨tb_3 (i := 10) (by decide +kernel) rfl, tb_1 (i := 5) (by decide +kernel) rfl, by decide +kernel, by decide +kernel, by decide +kernel⟩
theorem YX4_hours : v_Y yX4_hours cX4_hours 4 (some .int) 1 := ⟨tb_3 (i := 14) (by decide +kernel) rfl, tb_1 (i := 5) (by decide +kernel) rfl, by decide +kernel, by decide +kernel, by decide +kernel⟩
theorem YX4_flows : v_Y yX4_flows cX4_flows 10 none 1 := ⟨tb_3 (i := 18) (by decide +kernel) rfl, tb_1 (i := 5) (by decide +kernel) rfl, by decide +kernel, by decide +kernel, by decide +kernel⟩
theorem YX4_most : v_Y yX4_most cX4_most 4 (some .int) 2 := ⟨tb_3 (i := 22) (by decide +kernel) rfl, tb_1 (i := 5) (by decide +kernel) rfl, by decide +kernel, by decide +kernel, by decide +kernel⟩
theorem YX4_grows : v_Y yX4_grows cX4_grows 7 none 3 := ⟨tb_3 (i := 26) (by decide +kernel) rfl, tb_1 (i := 5) (by decide +kernel) rfl, by decide +kernel, by decide +kernel, by decide +kernel⟩
theorem YX4_judges : v_Y yX4_judges cX4_judges 5 none 0 := ⟨tb_3 (i := 30) (by decide +kernel) rfl, tb_1 (i := 5) (by decide +kernel) rfl, by decide +kernel, by decide +kernel, by decide +kernel⟩
theorem YX4_breaks : v_Y yX4_breaks cX4_breaks 3 none 2 := ⟨tb_3 (i := 34) (by decide +kernel) rfl, tb_1 (i := 5) (by decide +kernel) rfl, by decide +kernel, by decide +kernel, by decide +kernel⟩
theorem YX4_told : v_Y yX4_told cX4_told 3 (some .int) 2 := ⟨tb_3 (i := 38) (by decide +kernel) rfl, tb_1 (i := 5) (by decide +kernel) rfl, by decide +kernel, by decide +kernel, by decide +kernel⟩
theorem YX4_pane : v_Y yX4_pane cX4_pane 5 (some .int) 3 := ⟨tb_3 (i := 42) (by decide +kernel) rfl, tb_1 (i := 5) (by decide +kernel) rfl, by decide +kernel, by decide +kernel, by decide +kernel⟩
theorem YX4_stream : v_Y yX4_stream cX4_stream 2 (some .int) 1 := ⟨tb_3 (i := 46) (by decide +kernel) rfl, tb_1 (i := 5) (by decide +kernel) rfl, by decide +kernel, by decide +kernel, by decide +kernel⟩
theorem YX4_sum : v_Y yX4_sum cX4_sum 5 (some .int) 2 := ⟨tb_3 (i := 50) (by decide +kernel) rfl, tb_1 (i := 5) (by decide +kernel) rfl, by decide +kernel, by decide +kernel, by decide +kernel⟩
theorem YX4_broken : v_Y yX4_broken cX4_broken 3 (some .int) 2 := ⟨tb_3 (i := 54) (by decide +kernel) rfl, tb_1 (i := 5) (by decide +kernel) rfl, by decide +kernel, by decide +kernel, by decide +kernel⟩
theorem YX4_farm : v_Y yX4_farm cX4_farm 3 (some .int) 2 := ⟨tb_3 (i := 58) (by decide +kernel) rfl, tb_1 (i := 5) (by decide +kernel) rfl, by decide +kernel, by decide +kernel, by decide +kernel⟩
theorem YX4_ofFarm : v_Y yX4_ofFarm cX4_ofFarm 7 (some .int) 3 := ⟨tb_3 (i := 62) (by decide +kernel) rfl, tb_1 (i := 5) (by decide +kernel) rfl, by decide +kernel, by decide +kernel, by decide +kernel⟩
theorem YX4_without : v_Y yX4_without cX4_without 3 (some .int) 2 := ⟨tb_3 (i := 66) (by decide +kernel) rfl, tb_1 (i := 5) (by decide +kernel) rfl, by decide +kernel, by decide +kernel, by decide +kernel⟩
theorem YX4_count : v_Y yX4_count cX4_count 2 (some .int) 1 := ⟨tb_3 (i := 70) (by decide +kernel) rfl, tb_1 (i := 5) (by decide +kernel) rfl, by decide +kernel, by decide +kernel, by decide +kernel⟩
theorem mL_13 : v_LV RL 13 yX3_hatch := ⟨tb_1 (i := 187) (by decide +kernel) rfl, tb_1 (i := 188) (by decide +kernel) rfl, tb_1 (i := 189) (by decide +kernel) rfl⟩
theorem mX3_36 : v_LS RX3 36 yX3_isWithin := ⟨tb_1 (i := 191) (by decide +kernel) rfl, tb_1 (i := 192) (by decide +kernel) rfl⟩
theorem mX3_44 : v_LV RX3 44 yX3_hasAllDeeds := ⟨tb_1 (i := 194) (by decide +kernel) rfl, tb_1 (i := 196) (by decide +kernel) rfl, tb_0 (i := 0) (by decide +kernel) rfl⟩
theorem mX3_51 : v_LV RX3 51 yX2_addHatch := ⟨tb_1 (i := 198) (by decide +kernel) rfl, tb_1 (i := 199) (by decide +kernel) rfl, tb_1 (i := 200) (by decide +kernel) rfl⟩
theorem mL_18 : v_LV RL 18 yX3_open := ⟨tb_1 (i := 202) (by decide +kernel) rfl, tb_1 (i := 203) (by decide +kernel) rfl, tb_1 (i := 204) (by decide +kernel) rfl⟩
theorem mX3_55 : v_LV RX3 55 yX2_isHatch := ⟨tb_1 (i := 206) (by decide +kernel) rfl, tb_1 (i := 207) (by decide +kernel) rfl, tb_1 (i := 208) (by decide +kernel) rfl⟩
theorem mL_23 : v_LV RL 23 yX3_flow := ⟨tb_1 (i := 210) (by decide +kernel) rfl, tb_1 (i := 211) (by decide +kernel) rfl, tb_1 (i := 212) (by decide +kernel) rfl⟩
theorem mL_28 : v_LV RL 28 yX3_air := ⟨tb_1 (i := 214) (by decide +kernel) rfl, tb_1 (i := 215) (by decide +kernel) rfl, tb_1 (i := 216) (by decide +kernel) rfl⟩
theorem mL_32 : v_LV RL 32 yX3_dig := ⟨tb_1 (i := 218) (by decide +kernel) rfl, tb_1 (i := 219) (by decide +kernel) rfl, tb_1 (i := 220) (by decide +kernel) rfl⟩
theorem mX3_69 : v_LV RX3 69 yX0_siltOf := ⟨tb_1 (i := 222) (by decide +kernel) rfl, tb_1 (i := 223) (by decide +kernel) rfl, tb_1 (i := 224) (by decide +kernel) rfl⟩
theorem mL_36 : v_LV RL 36 yX3_sheep := ⟨tb_1 (i := 226) (by decide +kernel) rfl, tb_1 (i := 227) (by decide +kernel) rfl, tb_1 (i := 228) (by decide +kernel) rfl⟩
theorem mX3_76 : v_LV RX3 76 yX2_isPane := ⟨tb_1 (i := 230) (by decide +kernel) rfl, tb_1 (i := 231) (by decide +kernel) rfl, tb_1 (i := 232) (by decide +kernel) rfl⟩
theorem mX2_37 : v_LV RX2 37 yX2_isHatch := ⟨tb_1 (i := 234) (by decide +kernel) rfl, tb_1 (i := 207) (by decide +kernel) rfl, tb_1 (i := 208) (by decide +kernel) rfl⟩
theorem mX3_80 : v_LS RX3 80 yX3_placeOf := ⟨tb_1 (i := 235) (by decide +kernel) rfl, tb_1 (i := 236) (by decide +kernel) rfl⟩
theorem mL_40 : v_LV RL 40 yX3_right := ⟨tb_1 (i := 238) (by decide +kernel) rfl, tb_1 (i := 239) (by decide +kernel) rfl, tb_2 (i := 0) (by decide +kernel) rfl⟩
theorem mL_44 : v_LV RL 44 yX3_hours := ⟨tb_2 (i := 2) (by decide +kernel) rfl, tb_2 (i := 3) (by decide +kernel) rfl, tb_2 (i := 4) (by decide +kernel) rfl⟩
theorem mX3_99 : v_LV RX3 99 yX3_advance := ⟨tb_2 (i := 6) (by decide +kernel) rfl, tb_2 (i := 8) (by decide +kernel) rfl, tb_0 (i := 1) (by decide +kernel) rfl⟩
theorem mX3_169 : v_LV RX3 169 yX0_passHour := ⟨tb_2 (i := 10) (by decide +kernel) rfl, tb_2 (i := 11) (by decide +kernel) rfl, tb_2 (i := 12) (by decide +kernel) rfl⟩
theorem mX0_65 : v_LV RX0 65 yX0_takeIn := ⟨tb_2 (i := 14) (by decide +kernel) rfl, tb_2 (i := 16) (by decide +kernel) rfl, tb_0 (i := 2) (by decide +kernel) rfl⟩
theorem mX0_103 : v_LV RX0 103 yX0_mostOf := ⟨tb_2 (i := 18) (by decide +kernel) rfl, tb_2 (i := 19) (by decide +kernel) rfl, tb_2 (i := 20) (by decide +kernel) rfl⟩
theorem mX0_46 : v_LV RX0 46 yX0_siltOf := ⟨tb_2 (i := 22) (by decide +kernel) rfl, tb_1 (i := 223) (by decide +kernel) rfl, tb_1 (i := 224) (by decide +kernel) rfl⟩
theorem mX0_50 : v_LM RX0 50 Lib.Math.max.name Lib.Math.max.code := ⟨tb_2 (i := 23) (by decide +kernel) rfl, tb_2 (i := 24) (by decide +kernel) rfl, tb_1 (i := 6) (by decide +kernel) rfl, tb_2 (i := 25) (by decide +kernel) rfl⟩
theorem mX0_106 : v_LM RX0 106 Lib.Math.min.name Lib.Math.min.code := ⟨tb_2 (i := 26) (by decide +kernel) rfl, tb_2 (i := 27) (by decide +kernel) rfl, tb_1 (i := 6) (by decide +kernel) rfl, tb_2 (i := 28) (by decide +kernel) rfl⟩
theorem mX0_69 : v_LV RX0 69 yX0_soakPanes := ⟨tb_2 (i := 29) (by decide +kernel) rfl, tb_2 (i := 31) (by decide +kernel) rfl, tb_0 (i := 3) (by decide +kernel) rfl⟩
theorem mX0_72 : v_LV RX0 72 yX0_tendPanes := ⟨tb_2 (i := 34) (by decide +kernel) rfl, tb_2 (i := 36) (by decide +kernel) rfl, tb_0 (i := 4) (by decide +kernel) rfl⟩
theorem mX0_112 : v_LV RX0 112 yX2_isGrazing := ⟨tb_2 (i := 38) (by decide +kernel) rfl, tb_2 (i := 39) (by decide +kernel) rfl, tb_2 (i := 40) (by decide +kernel) rfl⟩
theorem mX0_115 : v_LV RX0 115 yX0_growGrass := ⟨tb_2 (i := 43) (by decide +kernel) rfl, tb_2 (i := 45) (by decide +kernel) rfl, tb_0 (i := 5) (by decide +kernel) rfl⟩
theorem mX0_119 : v_LV RX0 119 yX0_grazePane := ⟨tb_2 (i := 47) (by decide +kernel) rfl, tb_2 (i := 49) (by decide +kernel) rfl, tb_0 (i := 6) (by decide +kernel) rfl⟩
theorem mX0_81 : v_LV RX0 81 yX0_isMillShort := ⟨tb_2 (i := 51) (by decide +kernel) rfl, tb_2 (i := 52) (by decide +kernel) rfl, tb_2 (i := 53) (by decide +kernel) rfl⟩
theorem mX0_88 : v_LV RX0 88 yX2_rightAt := ⟨tb_2 (i := 55) (by decide +kernel) rfl, tb_2 (i := 56) (by decide +kernel) rfl, tb_2 (i := 57) (by decide +kernel) rfl⟩
theorem mX2_41 : v_LV RX2 41 yX2_isLawless := ⟨tb_2 (i := 59) (by decide +kernel) rfl, tb_2 (i := 60) (by decide +kernel) rfl, tb_2 (i := 61) (by decide +kernel) rfl⟩
theorem mX3_173 : v_LV RX3 173 yX3_judgeHour := ⟨tb_2 (i := 63) (by decide +kernel) rfl, tb_2 (i := 65) (by decide +kernel) rfl, tb_0 (i := 7) (by decide +kernel) rfl⟩
theorem mX3_176 : v_LV RX3 176 yX2_isOutOfTurn := ⟨tb_2 (i := 67) (by decide +kernel) rfl, tb_2 (i := 68) (by decide +kernel) rfl, tb_2 (i := 69) (by decide +kernel) rfl⟩
theorem mX3_179 : v_LV RX3 179 yX1_enterTurn := ⟨tb_2 (i := 71) (by decide +kernel) rfl, tb_2 (i := 72) (by decide +kernel) rfl, tb_2 (i := 73) (by decide +kernel) rfl⟩
theorem mX1_24 : v_LV RX1 24 yX1_enter := ⟨tb_2 (i := 75) (by decide +kernel) rfl, tb_2 (i := 76) (by decide +kernel) rfl, tb_2 (i := 77) (by decide +kernel) rfl⟩
theorem mX3_183 : v_LV RX3 183 yX0_isMillShort := ⟨tb_2 (i := 79) (by decide +kernel) rfl, tb_2 (i := 52) (by decide +kernel) rfl, tb_2 (i := 53) (by decide +kernel) rfl⟩
theorem mX3_186 : v_LV RX3 186 yX1_enter := ⟨tb_2 (i := 80) (by decide +kernel) rfl, tb_2 (i := 76) (by decide +kernel) rfl, tb_2 (i := 77) (by decide +kernel) rfl⟩
theorem mL_48 : v_LV RL 48 yX3_told := ⟨tb_2 (i := 81) (by decide +kernel) rfl, tb_2 (i := 82) (by decide +kernel) rfl, tb_2 (i := 83) (by decide +kernel) rfl⟩
theorem mX3_111 : v_LV RX3 111 yX0_mostOf := ⟨tb_2 (i := 85) (by decide +kernel) rfl, tb_2 (i := 19) (by decide +kernel) rfl, tb_2 (i := 20) (by decide +kernel) rfl⟩
theorem mL_52 : v_LV RL 52 yX3_pane := ⟨tb_2 (i := 86) (by decide +kernel) rfl, tb_2 (i := 87) (by decide +kernel) rfl, tb_2 (i := 88) (by decide +kernel) rfl⟩
theorem mL_56 : v_LV RL 56 yX3_stream := ⟨tb_2 (i := 90) (by decide +kernel) rfl, tb_2 (i := 91) (by decide +kernel) rfl, tb_2 (i := 92) (by decide +kernel) rfl⟩
theorem mL_60 : v_LV RL 60 yX3_broken := ⟨tb_2 (i := 94) (by decide +kernel) rfl, tb_2 (i := 95) (by decide +kernel) rfl, tb_2 (i := 96) (by decide +kernel) rfl⟩
theorem mL_64 : v_LV RL 64 yX3_farm := ⟨tb_2 (i := 98) (by decide +kernel) rfl, tb_2 (i := 99) (by decide +kernel) rfl, tb_2 (i := 100) (by decide +kernel) rfl⟩
theorem mX3_162 : v_LV RX3 162 yX0_sumOfFarm := ⟨tb_2 (i := 102) (by decide +kernel) rfl, tb_2 (i := 103) (by decide +kernel) rfl, tb_2 (i := 104) (by decide +kernel) rfl⟩
theorem mL_68 : v_LV RL 68 yX3_without := ⟨tb_2 (i := 106) (by decide +kernel) rfl, tb_2 (i := 107) (by decide +kernel) rfl, tb_2 (i := 108) (by decide +kernel) rfl⟩
theorem mL_72 : v_LV RL 72 yX3_count := ⟨tb_2 (i := 110) (by decide +kernel) rfl, tb_2 (i := 111) (by decide +kernel) rfl, tb_2 (i := 112) (by decide +kernel) rfl⟩
theorem mL_17 : v_LV RL 17 yX4_hatch := ⟨tb_2 (i := 208) (by decide +kernel) rfl, tb_2 (i := 209) (by decide +kernel) rfl, tb_2 (i := 210) (by decide +kernel) rfl⟩
theorem mX4_77 : v_LS RX4 77 yX4_in := ⟨tb_2 (i := 212) (by decide +kernel) rfl, tb_2 (i := 213) (by decide +kernel) rfl⟩
theorem mX4_84 : v_LV RX4 84 yX4_isFull := ⟨tb_2 (i := 215) (by decide +kernel) rfl, tb_2 (i := 217) (by decide +kernel) rfl, tb_0 (i := 8) (by decide +kernel) rfl⟩
theorem mL_22 : v_LV RL 22 yX4_open := ⟨tb_2 (i := 219) (by decide +kernel) rfl, tb_2 (i := 220) (by decide +kernel) rfl, tb_2 (i := 221) (by decide +kernel) rfl⟩
theorem mX4_88 : v_LV RX4 88 yX4_isHatch := ⟨tb_2 (i := 223) (by decide +kernel) rfl, tb_2 (i := 225) (by decide +kernel) rfl, tb_0 (i := 9) (by decide +kernel) rfl⟩
theorem mL_27 : v_LV RL 27 yX4_flow := ⟨tb_2 (i := 227) (by decide +kernel) rfl, tb_2 (i := 228) (by decide +kernel) rfl, tb_2 (i := 229) (by decide +kernel) rfl⟩
theorem mL_31 : v_LV RL 31 yX4_air := ⟨tb_2 (i := 231) (by decide +kernel) rfl, tb_2 (i := 232) (by decide +kernel) rfl, tb_2 (i := 233) (by decide +kernel) rfl⟩
theorem mL_35 : v_LV RL 35 yX4_dig := ⟨tb_2 (i := 235) (by decide +kernel) rfl, tb_2 (i := 236) (by decide +kernel) rfl, tb_2 (i := 237) (by decide +kernel) rfl⟩
theorem mL_39 : v_LV RL 39 yX4_sheep := ⟨tb_2 (i := 239) (by decide +kernel) rfl, tb_3 (i := 0) (by decide +kernel) rfl, tb_3 (i := 1) (by decide +kernel) rfl⟩
theorem mX4_92 : v_LV RX4 92 yX4_isPane := ⟨tb_3 (i := 3) (by decide +kernel) rfl, tb_3 (i := 5) (by decide +kernel) rfl, tb_0 (i := 10) (by decide +kernel) rfl⟩
theorem mL_43 : v_LV RL 43 yX4_right := ⟨tb_3 (i := 7) (by decide +kernel) rfl, tb_3 (i := 8) (by decide +kernel) rfl, tb_3 (i := 9) (by decide +kernel) rfl⟩
theorem mL_47 : v_LV RL 47 yX4_hours := ⟨tb_3 (i := 11) (by decide +kernel) rfl, tb_3 (i := 12) (by decide +kernel) rfl, tb_3 (i := 13) (by decide +kernel) rfl⟩
theorem mX4_126 : v_LV RX4 126 yX4_flows := ⟨tb_3 (i := 15) (by decide +kernel) rfl, tb_3 (i := 17) (by decide +kernel) rfl, tb_0 (i := 11) (by decide +kernel) rfl⟩
theorem mX4_105 : v_LV RX4 105 yX4_most := ⟨tb_3 (i := 19) (by decide +kernel) rfl, tb_3 (i := 21) (by decide +kernel) rfl, tb_0 (i := 12) (by decide +kernel) rfl⟩
theorem mX4_109 : v_LV RX4 109 yX4_grows := ⟨tb_3 (i := 23) (by decide +kernel) rfl, tb_3 (i := 25) (by decide +kernel) rfl, tb_0 (i := 13) (by decide +kernel) rfl⟩
theorem mX4_130 : v_LV RX4 130 yX4_judges := ⟨tb_3 (i := 27) (by decide +kernel) rfl, tb_3 (i := 29) (by decide +kernel) rfl, tb_0 (i := 14) (by decide +kernel) rfl⟩
theorem mX4_119 : v_LV RX4 119 yX4_breaks := ⟨tb_3 (i := 31) (by decide +kernel) rfl, tb_3 (i := 33) (by decide +kernel) rfl, tb_0 (i := 15) (by decide +kernel) rfl⟩
theorem mL_51 : v_LV RL 51 yX4_told := ⟨tb_3 (i := 35) (by decide +kernel) rfl, tb_3 (i := 36) (by decide +kernel) rfl, tb_3 (i := 37) (by decide +kernel) rfl⟩
theorem mL_55 : v_LV RL 55 yX4_pane := ⟨tb_3 (i := 39) (by decide +kernel) rfl, tb_3 (i := 40) (by decide +kernel) rfl, tb_3 (i := 41) (by decide +kernel) rfl⟩
theorem mL_59 : v_LV RL 59 yX4_stream := ⟨tb_3 (i := 43) (by decide +kernel) rfl, tb_3 (i := 44) (by decide +kernel) rfl, tb_3 (i := 45) (by decide +kernel) rfl⟩
theorem mX4_133 : v_LV RX4 133 yX4_sum := ⟨tb_3 (i := 47) (by decide +kernel) rfl, tb_3 (i := 49) (by decide +kernel) rfl, tb_0 (i := 16) (by decide +kernel) rfl⟩
theorem mL_63 : v_LV RL 63 yX4_broken := ⟨tb_3 (i := 51) (by decide +kernel) rfl, tb_3 (i := 52) (by decide +kernel) rfl, tb_3 (i := 53) (by decide +kernel) rfl⟩
theorem mL_67 : v_LV RL 67 yX4_farm := ⟨tb_3 (i := 55) (by decide +kernel) rfl, tb_3 (i := 56) (by decide +kernel) rfl, tb_3 (i := 57) (by decide +kernel) rfl⟩
theorem mX4_137 : v_LV RX4 137 yX4_ofFarm := ⟨tb_3 (i := 59) (by decide +kernel) rfl, tb_3 (i := 61) (by decide +kernel) rfl, tb_0 (i := 17) (by decide +kernel) rfl⟩
theorem mL_71 : v_LV RL 71 yX4_without := ⟨tb_3 (i := 63) (by decide +kernel) rfl, tb_3 (i := 64) (by decide +kernel) rfl, tb_3 (i := 65) (by decide +kernel) rfl⟩
theorem mL_75 : v_LV RL 75 yX4_count := ⟨tb_3 (i := 67) (by decide +kernel) rfl, tb_3 (i := 68) (by decide +kernel) rfl, tb_3 (i := 69) (by decide +kernel) rfl⟩
theorem splaceOf : Cond.static yX3_placeOf ∈ tbG := tb_1 (i := 236) (by decide +kernel) rfl
theorem sisWithin : Cond.static yX3_isWithin ∈ tbG := tb_1 (i := 192) (by decide +kernel) rfl
theorem ciX0 : v_ci 0 RX0 := ⟨_, rfl, rfl⟩
theorem ciX1 : v_ci 1 RX1 := ⟨_, rfl, rfl⟩
theorem ciX2 : v_ci 2 RX2 := ⟨_, rfl, rfl⟩
theorem ciX3 : v_ci 3 RX3 := ⟨_, rfl, rfl⟩
theorem ciX4 : v_ci 4 RX4 := ⟨_, rfl, rfl⟩
