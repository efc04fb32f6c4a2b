set_option maxRecDepth 20000 in
theorem ui_X0 : ∀ w ∈ u_ws RX0 TX0 2, w ∈ TB := by
  intro w hw
  obtain ⟨k, hk, rfl⟩ := List.mem_map.mp hw
  have hk := List.mem_range.mp hk
  match k, hk with
  | 0, _ => exact TB_of 162 rfl rfl
  | 1, _ => exact TB_of 164 rfl rfl
  | k + 2, h => exact absurd h (by omega)
set_option maxRecDepth 20000 in
theorem ui_X1 : ∀ w ∈ u_ws RX1 TX1 8, w ∈ TB := by
  intro w hw
  obtain ⟨k, hk, rfl⟩ := List.mem_map.mp hw
  have hk := List.mem_range.mp hk
  match k, hk with
  | 0, _ => exact TB_of 108 rfl rfl
  | 1, _ => exact TB_of 110 rfl rfl
  | 2, _ => exact TB_of 112 rfl rfl
  | 3, _ => exact TB_of 114 rfl rfl
  | 4, _ => exact TB_of 116 rfl rfl
  | 5, _ => exact TB_of 118 rfl rfl
  | 6, _ => exact TB_of 120 rfl rfl
  | 7, _ => exact TB_of 122 rfl rfl
  | k + 8, h => exact absurd h (by omega)
set_option maxRecDepth 20000 in
theorem ui_X2 : ∀ w ∈ u_ws RX2 TX2 2, w ∈ TB := by
  intro w hw
  obtain ⟨k, hk, rfl⟩ := List.mem_map.mp hw
  have hk := List.mem_range.mp hk
  match k, hk with
  | 0, _ => exact TB_of 87 rfl rfl
  | 1, _ => exact TB_of 89 rfl rfl
  | k + 2, h => exact absurd h (by omega)
set_option maxRecDepth 20000 in
theorem ui_X3 : ∀ w ∈ u_ws RX3 TX3 3, w ∈ TB := by
  intro w hw
  obtain ⟨k, hk, rfl⟩ := List.mem_map.mp hw
  have hk := List.mem_range.mp hk
  match k, hk with
  | 0, _ => exact TB_of 177 rfl rfl
  | 1, _ => exact TB_of 179 rfl rfl
  | 2, _ => exact TB_of 181 rfl rfl
  | k + 3, h => exact absurd h (by omega)
set_option maxRecDepth 20000 in
theorem ui_X4 : ∀ w ∈ u_ws RX4 TX4 2, w ∈ TB := by
  intro w hw
  obtain ⟨k, hk, rfl⟩ := List.mem_map.mp hw
  have hk := List.mem_range.mp hk
  match k, hk with
  | 0, _ => exact TB_of 147 rfl rfl
  | 1, _ => exact TB_of 149 rfl rfl
  | k + 2, h => exact absurd h (by omega)
set_option maxRecDepth 20000 in
theorem ui_X5 : ∀ w ∈ u_ws RX5 TX5 2, w ∈ TB := by
  intro w hw
  obtain ⟨k, hk, rfl⟩ := List.mem_map.mp hw
  have hk := List.mem_range.mp hk
  match k, hk with
  | 0, _ => exact TB_of 134 rfl rfl
  | 1, _ => exact TB_of 136 rfl rfl
  | k + 2, h => exact absurd h (by omega)
set_option maxRecDepth 20000 in
theorem ui_X6 : ∀ w ∈ u_ws RX6 TX6 4, w ∈ TB := by
  intro w hw
  obtain ⟨k, hk, rfl⟩ := List.mem_map.mp hw
  have hk := List.mem_range.mp hk
  match k, hk with
  | 0, _ => exact TB_of 480 rfl rfl
  | 1, _ => exact TB_of 482 rfl rfl
  | 2, _ => exact TB_of 484 rfl rfl
  | 3, _ => exact TB_of 486 rfl rfl
  | k + 4, h => exact absurd h (by omega)
set_option maxRecDepth 20000 in
theorem ui_X7 : ∀ w ∈ u_ws RX7 TX7 11, w ∈ TB := by
  intro w hw
  obtain ⟨k, hk, rfl⟩ := List.mem_map.mp hw
  have hk := List.mem_range.mp hk
  match k, hk with
  | 0, _ => exact TB_of 221 rfl rfl
  | 1, _ => exact TB_of 223 rfl rfl
  | 2, _ => exact TB_of 225 rfl rfl
  | 3, _ => exact TB_of 227 rfl rfl
  | 4, _ => exact TB_of 229 rfl rfl
  | 5, _ => exact TB_of 231 rfl rfl
  | 6, _ => exact TB_of 233 rfl rfl
  | 7, _ => exact TB_of 235 rfl rfl
  | 8, _ => exact TB_of 237 rfl rfl
  | 9, _ => exact TB_of 239 rfl rfl
  | 10, _ => exact TB_of 241 rfl rfl
  | k + 11, h => exact absurd h (by omega)
set_option maxRecDepth 20000 in
theorem ui_X8 : ∀ w ∈ u_ws RX8 TX8 33, w ∈ TB := by
  intro w hw
  obtain ⟨k, hk, rfl⟩ := List.mem_map.mp hw
  have hk := List.mem_range.mp hk
  match k, hk with
  | 0, _ => exact TB_of 763 rfl rfl
  | 1, _ => exact TB_of 765 rfl rfl
  | 2, _ => exact TB_of 767 rfl rfl
  | 3, _ => exact TB_of 769 rfl rfl
  | 4, _ => exact TB_of 771 rfl rfl
  | 5, _ => exact TB_of 773 rfl rfl
  | 6, _ => exact TB_of 775 rfl rfl
  | 7, _ => exact TB_of 777 rfl rfl
  | 8, _ => exact TB_of 779 rfl rfl
  | 9, _ => exact TB_of 781 rfl rfl
  | 10, _ => exact TB_of 783 rfl rfl
  | 11, _ => exact TB_of 785 rfl rfl
  | 12, _ => exact TB_of 787 rfl rfl
  | 13, _ => exact TB_of 789 rfl rfl
  | 14, _ => exact TB_of 791 rfl rfl
  | 15, _ => exact TB_of 793 rfl rfl
  | 16, _ => exact TB_of 795 rfl rfl
  | 17, _ => exact TB_of 797 rfl rfl
  | 18, _ => exact TB_of 799 rfl rfl
  | 19, _ => exact TB_of 801 rfl rfl
  | 20, _ => exact TB_of 803 rfl rfl
  | 21, _ => exact TB_of 805 rfl rfl
  | 22, _ => exact TB_of 807 rfl rfl
  | 23, _ => exact TB_of 809 rfl rfl
  | 24, _ => exact TB_of 811 rfl rfl
  | 25, _ => exact TB_of 813 rfl rfl
  | 26, _ => exact TB_of 815 rfl rfl
  | 27, _ => exact TB_of 817 rfl rfl
  | 28, _ => exact TB_of 819 rfl rfl
  | 29, _ => exact TB_of 821 rfl rfl
  | 30, _ => exact TB_of 823 rfl rfl
  | 31, _ => exact TB_of 825 rfl rfl
  | 32, _ => exact TB_of 827 rfl rfl
  | k + 33, h => exact absurd h (by omega)
set_option maxRecDepth 20000 in
theorem ui_Jx4a65c : ∀ w ∈ u_ws RJx4a65c TJx4a65c 3, w ∈ TB := by
  intro w hw
  obtain ⟨k, hk, rfl⟩ := List.mem_map.mp hw
  have hk := List.mem_range.mp hk
  match k, hk with
  | 0, _ => exact TB_of 207 rfl rfl
  | 1, _ => exact TB_of 203 rfl rfl
  | 2, _ => exact TB_of 205 rfl rfl
  | k + 3, h => exact absurd h (by omega)
set_option maxRecDepth 20000 in
theorem mw_X7_init : MW yX7_init cX7_init 1 none 0 := ⟨TB_of 72 rfl rfl, TB_of 45 rfl rfl, by decide +kernel, by decide +kernel⟩
set_option maxRecDepth 20000 in
theorem mw_X2_init : MW yX2_init cX2_init 1 none 0 := ⟨TB_of 80 rfl rfl, TB_of 46 rfl rfl, by decide +kernel, by decide +kernel⟩
set_option maxRecDepth 20000 in
theorem mw_J7_fill_53178 : MW yJ7_fill_53178 cJ7_fill_53178 4 none 2 := ⟨TB_of 84 rfl rfl, TB_of 47 rfl rfl, by decide +kernel, by decide +kernel⟩
set_option maxRecDepth 20000 in
theorem mw_X1_init : MW yX1_init cX1_init 1 none 0 := ⟨TB_of 97 rfl rfl, TB_of 48 rfl rfl, by decide +kernel, by decide +kernel⟩
set_option maxRecDepth 20000 in
theorem mw_X5_init : MW yX5_init cX5_init 1 none 0 := ⟨TB_of 129 rfl rfl, TB_of 49 rfl rfl, by decide +kernel, by decide +kernel⟩
set_option maxRecDepth 20000 in
theorem mw_X4_init : MW yX4_init cX4_init 1 none 0 := ⟨TB_of 143 rfl rfl, TB_of 50 rfl rfl, by decide +kernel, by decide +kernel⟩
set_option maxRecDepth 20000 in
theorem mw_X0_init : MW yX0_init cX0_init 1 none 0 := ⟨TB_of 156 rfl rfl, TB_of 51 rfl rfl, by decide +kernel, by decide +kernel⟩
set_option maxRecDepth 20000 in
theorem mw_X3_init : MW yX3_init cX3_init 1 none 0 := ⟨TB_of 171 rfl rfl, TB_of 52 rfl rfl, by decide +kernel, by decide +kernel⟩
set_option maxRecDepth 20000 in
theorem mw_Jx4a65c_init_da8c8 : MW yJx4a65c_init_da8c8 cJx4a65c_init_da8c8 1 none 0 := ⟨TB_of 188 rfl rfl, TB_of 55 rfl rfl, by decide +kernel, by decide +kernel⟩
set_option maxRecDepth 20000 in
theorem mw_Jxc12de_init_da8c8 : MW yJxc12de_init_da8c8 cJxc12de_init_da8c8 1 none 0 := ⟨TB_of 191 rfl rfl, TB_of 54 rfl rfl, by decide +kernel, by decide +kernel⟩
set_option maxRecDepth 20000 in
theorem mw_Jxa1e45_init_da8c8 : MW yJxa1e45_init_da8c8 cJxa1e45_init_da8c8 1 none 0 := ⟨TB_of 194 rfl rfl, TB_of 53 rfl rfl, by decide +kernel, by decide +kernel⟩
set_option maxRecDepth 20000 in
theorem mw_X7_part : MW yX7_part cX7_part 2 (some (.int)) 1 := ⟨TB_of 247 rfl rfl, TB_of 45 rfl rfl, by decide +kernel, by decide +kernel⟩
set_option maxRecDepth 20000 in
theorem mw_X7_isCutAtHand : MW yX7_isCutAtHand cX7_isCutAtHand 1 (some (.boolean)) 0 := ⟨TB_of 251 rfl rfl, TB_of 45 rfl rfl, by decide +kernel, by decide +kernel⟩
set_option maxRecDepth 20000 in
theorem mw_X7_isVersion : MW yX7_isVersion cX7_isVersion 1 (some (.boolean)) 1 := ⟨TB_of 254 rfl rfl, TB_of 45 rfl rfl, by decide +kernel, by decide +kernel⟩
set_option maxRecDepth 20000 in
theorem mw_X7_offer : MW yX7_offer cX7_offer 4 (some (.boolean)) 3 := ⟨TB_of 258 rfl rfl, TB_of 45 rfl rfl, by decide +kernel, by decide +kernel⟩
set_option maxRecDepth 20000 in
theorem mw_X7_isPart : MW yX7_isPart cX7_isPart 2 (some (.boolean)) 1 := ⟨TB_of 262 rfl rfl, TB_of 45 rfl rfl, by decide +kernel, by decide +kernel⟩
set_option maxRecDepth 20000 in
theorem mw_X7_isWorth : MW yX7_isWorth cX7_isWorth 1 (some (.boolean)) 1 := ⟨TB_of 265 rfl rfl, TB_of 45 rfl rfl, by decide +kernel, by decide +kernel⟩
set_option maxRecDepth 20000 in
theorem mw_X7_homeToCome : MW yX7_homeToCome cX7_homeToCome 2 (some (.int)) 1 := ⟨TB_of 269 rfl rfl, TB_of 45 rfl rfl, by decide +kernel, by decide +kernel⟩
set_option maxRecDepth 20000 in
theorem mw_X7_isChosen : MW yX7_isChosen cX7_isChosen 2 (some (.boolean)) 1 := ⟨TB_of 273 rfl rfl, TB_of 45 rfl rfl, by decide +kernel, by decide +kernel⟩
set_option maxRecDepth 20000 in
theorem mw_X2_versionOf : MW yX2_versionOf cX2_versionOf 2 (some (.int)) 1 := ⟨TB_of 277 rfl rfl, TB_of 46 rfl rfl, by decide +kernel, by decide +kernel⟩
set_option maxRecDepth 20000 in
theorem mw_X7_openOffers : MW yX7_openOffers cX7_openOffers 1 (some (.object "TrainDesk$Offers")) 0 := ⟨TB_of 281 rfl rfl, TB_of 45 rfl rfl, by decide +kernel, by decide +kernel⟩
set_option maxRecDepth 20000 in
theorem mw_X2_put : MW yX2_put cX2_put 4 none 3 := ⟨TB_of 285 rfl rfl, TB_of 46 rfl rfl, by decide +kernel, by decide +kernel⟩
set_option maxRecDepth 20000 in
theorem mw_X7_withdraw : MW yX7_withdraw cX7_withdraw 2 (some (.boolean)) 1 := ⟨TB_of 289 rfl rfl, TB_of 45 rfl rfl, by decide +kernel, by decide +kernel⟩
set_option maxRecDepth 20000 in
theorem mw_X2_has : MW yX2_has cX2_has 2 (some (.boolean)) 1 := ⟨TB_of 293 rfl rfl, TB_of 46 rfl rfl, by decide +kernel, by decide +kernel⟩
set_option maxRecDepth 20000 in
theorem mw_X2_drop : MW yX2_drop cX2_drop 2 none 1 := ⟨TB_of 298 rfl rfl, TB_of 46 rfl rfl, by decide +kernel, by decide +kernel⟩
set_option maxRecDepth 20000 in
theorem mw_X7_need : MW yX7_need cX7_need 6 (some (.int)) 5 := ⟨TB_of 303 rfl rfl, TB_of 45 rfl rfl, by decide +kernel, by decide +kernel⟩
set_option maxRecDepth 20000 in
theorem mw_X1_add : MW yX1_add cX1_add 6 (some (.int)) 5 := ⟨TB_of 307 rfl rfl, TB_of 48 rfl rfl, by decide +kernel, by decide +kernel⟩
set_option maxRecDepth 20000 in
theorem mw_X7_test : MW yX7_test cX7_test 2 (some (.int)) 1 := ⟨TB_of 311 rfl rfl, TB_of 45 rfl rfl, by decide +kernel, by decide +kernel⟩
set_option maxRecDepth 20000 in
theorem mw_X7_areParts : MW yX7_areParts cX7_areParts 2 (some (.boolean)) 1 := ⟨TB_of 315 rfl rfl, TB_of 45 rfl rfl, by decide +kernel, by decide +kernel⟩
set_option maxRecDepth 20000 in
theorem mw_X5_add : MW yX5_add cX5_add 2 (some (.int)) 1 := ⟨TB_of 319 rfl rfl, TB_of 49 rfl rfl, by decide +kernel, by decide +kernel⟩
set_option maxRecDepth 20000 in
theorem mw_X7_fits : MW yX7_fits cX7_fits 2 (some (.int)) 1 := ⟨TB_of 323 rfl rfl, TB_of 45 rfl rfl, by decide +kernel, by decide +kernel⟩
set_option maxRecDepth 20000 in
theorem mw_X2_mask : MW yX2_mask cX2_mask 3 (some (.int)) 0 := ⟨TB_of 327 rfl rfl, TB_of 46 rfl rfl, by decide +kernel, by decide +kernel⟩
set_option maxRecDepth 20000 in
theorem mw_X7_firstBroken : MW yX7_firstBroken cX7_firstBroken 2 (some (.int)) 1 := ⟨TB_of 331 rfl rfl, TB_of 45 rfl rfl, by decide +kernel, by decide +kernel⟩
set_option maxRecDepth 20000 in
theorem mw_X1_weigh : MW yX1_weigh cX1_weigh 4 none 2 := ⟨TB_of 335 rfl rfl, TB_of 48 rfl rfl, by decide +kernel, by decide +kernel⟩
set_option maxRecDepth 20000 in
theorem mw_X1_weighOne : MW yX1_weighOne cX1_weighOne 10 none 3 := ⟨TB_of 339 rfl rfl, TB_of 48 rfl rfl, by decide +kernel, by decide +kernel⟩
set_option maxRecDepth 20000 in
theorem mw_X1_holds : MW yX1_holds cX1_holds 3 (some (.boolean)) 2 := ⟨TB_of 345 rfl rfl, TB_of 48 rfl rfl, by decide +kernel, by decide +kernel⟩
set_option maxRecDepth 20000 in
theorem mw_X1_neverBreaks : MW yX1_neverBreaks cX1_neverBreaks 2 none 1 := ⟨TB_of 349 rfl rfl, TB_of 48 rfl rfl, by decide +kernel, by decide +kernel⟩
set_option maxRecDepth 20000 in
theorem mw_X1_firstBroken : MW yX1_firstBroken cX1_firstBroken 3 (some (.int)) 1 := ⟨TB_of 353 rfl rfl, TB_of 48 rfl rfl, by decide +kernel, by decide +kernel⟩
set_option maxRecDepth 20000 in
theorem mw_X7_red : MW yX7_red cX7_red 2 (some (.int)) 1 := ⟨TB_of 357 rfl rfl, TB_of 45 rfl rfl, by decide +kernel, by decide +kernel⟩
set_option maxRecDepth 20000 in
theorem mw_X5_firstRed : MW yX5_firstRed cX5_firstRed 3 (some (.int)) 1 := ⟨TB_of 361 rfl rfl, TB_of 49 rfl rfl, by decide +kernel, by decide +kernel⟩
set_option maxRecDepth 20000 in
theorem mw_X7_cut : MW yX7_cut cX7_cut 2 (some (.int)) 0 := ⟨TB_of 365 rfl rfl, TB_of 45 rfl rfl, by decide +kernel, by decide +kernel⟩
set_option maxRecDepth 20000 in
theorem mw_X7_greatest : MW yX7_greatest cX7_greatest 8 (some (.int)) 2 := ⟨TB_of 369 rfl rfl, TB_of 45 rfl rfl, by decide +kernel, by decide +kernel⟩
set_option maxRecDepth 20000 in
theorem mw_X2_sum : MW yX2_sum cX2_sum 4 (some (.int)) 1 := ⟨TB_of 373 rfl rfl, TB_of 46 rfl rfl, by decide +kernel, by decide +kernel⟩
set_option maxRecDepth 20000 in
theorem mw_X7_hasLowerPart : MW yX7_hasLowerPart cX7_hasLowerPart 2 (some (.boolean)) 2 := ⟨TB_of 376 rfl rfl, TB_of 45 rfl rfl, by decide +kernel, by decide +kernel⟩
set_option maxRecDepth 20000 in
theorem mw_J6_lowestOneBit_0f7a4 : MW yJ6_lowestOneBit_0f7a4 cJ6_lowestOneBit_0f7a4 1 (some (.int)) 1 := ⟨TB_of 379 rfl rfl, TB_of 57 rfl rfl, by decide +kernel, by decide +kernel⟩
set_option maxRecDepth 20000 in
theorem mw_X7_goes : MW yX7_goes cX7_goes 2 (some (.boolean)) 1 := ⟨TB_of 383 rfl rfl, TB_of 45 rfl rfl, by decide +kernel, by decide +kernel⟩
set_option maxRecDepth 20000 in
theorem mw_X7_choose : MW yX7_choose cX7_choose 2 none 1 := ⟨TB_of 387 rfl rfl, TB_of 45 rfl rfl, by decide +kernel, by decide +kernel⟩
set_option maxRecDepth 20000 in
theorem mw_X4_plan : MW yX4_plan cX4_plan 6 none 2 := ⟨TB_of 391 rfl rfl, TB_of 50 rfl rfl, by decide +kernel, by decide +kernel⟩
set_option maxRecDepth 20000 in
theorem mw_J6_bitCount_0f7a4 : MW yJ6_bitCount_0f7a4 cJ6_bitCount_0f7a4 1 (some (.int)) 1 := ⟨TB_of 394 rfl rfl, TB_of 57 rfl rfl, by decide +kernel, by decide +kernel⟩
set_option maxRecDepth 20000 in
theorem mw_X4_firstOpen : MW yX4_firstOpen cX4_firstOpen 5 (some (.int)) 3 := ⟨TB_of 401 rfl rfl, TB_of 50 rfl rfl, by decide +kernel, by decide +kernel⟩
set_option maxRecDepth 20000 in
theorem mw_X7_chosen : MW yX7_chosen cX7_chosen 1 (some (.int)) 0 := ⟨TB_of 405 rfl rfl, TB_of 45 rfl rfl, by decide +kernel, by decide +kernel⟩
set_option maxRecDepth 20000 in
theorem mw_X7_worth : MW yX7_worth cX7_worth 1 (some (.int)) 0 := ⟨TB_of 409 rfl rfl, TB_of 45 rfl rfl, by decide +kernel, by decide +kernel⟩
set_option maxRecDepth 20000 in
theorem mw_X7_why : MW yX7_why cX7_why 5 (some (.int)) 1 := ⟨TB_of 413 rfl rfl, TB_of 45 rfl rfl, by decide +kernel, by decide +kernel⟩
set_option maxRecDepth 20000 in
theorem mw_X7_fix : MW yX7_fix cX7_fix 7 (some (.int)) 3 := ⟨TB_of 417 rfl rfl, TB_of 45 rfl rfl, by decide +kernel, by decide +kernel⟩
set_option maxRecDepth 20000 in
theorem mw_X7_mayFix : MW yX7_mayFix cX7_mayFix 4 (some (.boolean)) 3 := ⟨TB_of 421 rfl rfl, TB_of 45 rfl rfl, by decide +kernel, by decide +kernel⟩
set_option maxRecDepth 20000 in
theorem mw_X2_worthOf : MW yX2_worthOf cX2_worthOf 2 (some (.int)) 1 := ⟨TB_of 425 rfl rfl, TB_of 46 rfl rfl, by decide +kernel, by decide +kernel⟩
set_option maxRecDepth 20000 in
theorem mw_X7_leave : MW yX7_leave cX7_leave 7 (some (.int)) 3 := ⟨TB_of 429 rfl rfl, TB_of 45 rfl rfl, by decide +kernel, by decide +kernel⟩
set_option maxRecDepth 20000 in
theorem mw_X7_order : MW yX7_order cX7_order 2 (some (.int)) 1 := ⟨TB_of 433 rfl rfl, TB_of 45 rfl rfl, by decide +kernel, by decide +kernel⟩
set_option maxRecDepth 20000 in
theorem mw_X4_partAt : MW yX4_partAt cX4_partAt 2 (some (.int)) 1 := ⟨TB_of 437 rfl rfl, TB_of 50 rfl rfl, by decide +kernel, by decide +kernel⟩
set_option maxRecDepth 20000 in
theorem mw_X7_send : MW yX7_send cX7_send 3 (some (.int)) 0 := ⟨TB_of 441 rfl rfl, TB_of 45 rfl rfl, by decide +kernel, by decide +kernel⟩
set_option maxRecDepth 20000 in
theorem mw_X4_isFound : MW yX4_isFound cX4_isFound 1 (some (.boolean)) 0 := ⟨TB_of 445 rfl rfl, TB_of 50 rfl rfl, by decide +kernel, by decide +kernel⟩
set_option maxRecDepth 20000 in
theorem mw_Jx4a65c_size_8abf5 : MW yJx4a65c_size_8abf5 cJx4a65c_size_8abf5 1 (some (.int)) 0 := ⟨TB_of 449 rfl rfl, TB_of 55 rfl rfl, by decide +kernel, by decide +kernel⟩
set_option maxRecDepth 20000 in
theorem mw_J7_copyOf_59c91 : MW yJ7_copyOf_59c91 cJ7_copyOf_59c91 3 (some (.array .int)) 2 := ⟨TB_of 452 rfl rfl, TB_of 47 rfl rfl, by decide +kernel, by decide +kernel⟩
set_option maxRecDepth 20000 in
theorem mw_X6_init : MW yX6_init cX6_init 4 none 3 := ⟨TB_of 470 rfl rfl, TB_of 60 rfl rfl, by decide +kernel, by decide +kernel⟩
set_option maxRecDepth 20000 in
theorem mw_Jx4a65c_add_9ea2d : MW yJx4a65c_add_9ea2d cJx4a65c_add_9ea2d 2 (some (.boolean)) 1 := ⟨TB_of 492 rfl rfl, TB_of 55 rfl rfl, by decide +kernel, by decide +kernel⟩
set_option maxRecDepth 20000 in
theorem mw_Jx4a65c_add_72be8 : MW yJx4a65c_add_72be8 cJx4a65c_add_72be8 4 none 3 := ⟨TB_of 496 rfl rfl, TB_of 55 rfl rfl, by decide +kernel, by decide +kernel⟩
set_option maxRecDepth 20000 in
theorem mw_Jx4a65c_grow_d5877 : MW yJx4a65c_grow_d5877 cJx4a65c_grow_d5877 1 (some (.array (.object "java/lang/Object"))) 0 := ⟨TB_of 500 rfl rfl, TB_of 55 rfl rfl, by decide +kernel, by decide +kernel⟩
set_option maxRecDepth 20000 in
theorem mw_Jx4a65c_grow_92f84 : MW yJx4a65c_grow_92f84 cJx4a65c_grow_92f84 4 (some (.array (.object "java/lang/Object"))) 1 := ⟨TB_of 504 rfl rfl, TB_of 55 rfl rfl, by decide +kernel, by decide +kernel⟩
set_option maxRecDepth 20000 in
theorem mw_J8_newLength_cabcc : MW yJ8_newLength_cabcc cJ8_newLength_cabcc 4 (some (.int)) 3 := ⟨TB_of 507 rfl rfl, TB_of 61 rfl rfl, by decide +kernel, by decide +kernel⟩
set_option maxRecDepth 20000 in
theorem mw_J8_hugeLength_7cf53 : MW yJ8_hugeLength_7cf53 cJ8_hugeLength_7cf53 3 (some (.int)) 2 := ⟨TB_of 514 rfl rfl, TB_of 61 rfl rfl, by decide +kernel, by decide +kernel⟩
set_option maxRecDepth 20000 in
theorem mw_J7_copyOf_1904c : MW yJ7_copyOf_1904c cJ7_copyOf_1904c 2 (some (.array (.object "java/lang/Object"))) 2 := ⟨TB_of 517 rfl rfl, TB_of 47 rfl rfl, by decide +kernel, by decide +kernel⟩
set_option maxRecDepth 20000 in
theorem mw_J7_copyOf_6403c : MW yJ7_copyOf_6403c cJ7_copyOf_6403c 4 (some (.array (.object "java/lang/Object"))) 3 := ⟨TB_of 535 rfl rfl, TB_of 47 rfl rfl, by decide +kernel, by decide +kernel⟩
set_option maxRecDepth 20000 in
theorem mw_X7_endCut : MW yX7_endCut cX7_endCut 2 none 0 := ⟨TB_of 544 rfl rfl, TB_of 45 rfl rfl, by decide +kernel, by decide +kernel⟩
set_option maxRecDepth 20000 in
theorem mw_X7_giveUp : MW yX7_giveUp cX7_giveUp 1 (some (.boolean)) 0 := ⟨TB_of 548 rfl rfl, TB_of 45 rfl rfl, by decide +kernel, by decide +kernel⟩
set_option maxRecDepth 20000 in
theorem mw_X7_oneWay : MW yX7_oneWay cX7_oneWay 4 (some (.boolean)) 3 := ⟨TB_of 552 rfl rfl, TB_of 45 rfl rfl, by decide +kernel, by decide +kernel⟩
set_option maxRecDepth 20000 in
theorem mw_X3_add : MW yX3_add cX3_add 3 (some (.boolean)) 2 := ⟨TB_of 556 rfl rfl, TB_of 52 rfl rfl, by decide +kernel, by decide +kernel⟩
set_option maxRecDepth 20000 in
theorem mw_X3_find : MW yX3_find cX3_find 4 (some (.int)) 2 := ⟨TB_of 560 rfl rfl, TB_of 52 rfl rfl, by decide +kernel, by decide +kernel⟩
set_option maxRecDepth 20000 in
theorem mw_X3_remove : MW yX3_remove cX3_remove 4 (some (.boolean)) 2 := ⟨TB_of 564 rfl rfl, TB_of 52 rfl rfl, by decide +kernel, by decide +kernel⟩
set_option maxRecDepth 20000 in
theorem mw_X7_back : MW yX7_back cX7_back 3 (some (.int)) 0 := ⟨TB_of 568 rfl rfl, TB_of 45 rfl rfl, by decide +kernel, by decide +kernel⟩
set_option maxRecDepth 20000 in
theorem mw_X7_latestOut : MW yX7_latestOut cX7_latestOut 2 (some (.int)) 0 := ⟨TB_of 572 rfl rfl, TB_of 45 rfl rfl, by decide +kernel, by decide +kernel⟩
set_option maxRecDepth 20000 in
theorem mw_Jx4a65c_get_915e3 : MW yJx4a65c_get_915e3 cJx4a65c_get_915e3 2 (some (.object "java/lang/Object")) 1 := ⟨TB_of 576 rfl rfl, TB_of 55 rfl rfl, by decide +kernel, by decide +kernel⟩
set_option maxRecDepth 20000 in
theorem mw_J15_checkIndex_7cf53 : MW yJ15_checkIndex_7cf53 cJ15_checkIndex_7cf53 2 (some (.int)) 2 := ⟨TB_of 579 rfl rfl, TB_of 62 rfl rfl, by decide +kernel, by decide +kernel⟩
set_option maxRecDepth 20000 in
theorem mw_J3_checkIndex_8e157 : MW yJ3_checkIndex_8e157 cJ3_checkIndex_8e157 3 (some (.int)) 3 := ⟨TB_of 582 rfl rfl, TB_of 63 rfl rfl, by decide +kernel, by decide +kernel⟩
set_option maxRecDepth 20000 in
theorem mw_Jx4a65c_elementData_915e3 : MW yJx4a65c_elementData_915e3 cJx4a65c_elementData_915e3 2 (some (.object "java/lang/Object")) 1 := ⟨TB_of 586 rfl rfl, TB_of 55 rfl rfl, by decide +kernel, by decide +kernel⟩
set_option maxRecDepth 20000 in
theorem mw_X7_isStuck : MW yX7_isStuck cX7_isStuck 3 (some (.boolean)) 1 := ⟨TB_of 590 rfl rfl, TB_of 45 rfl rfl, by decide +kernel, by decide +kernel⟩
set_option maxRecDepth 20000 in
theorem mw_X7_bringHome : MW yX7_bringHome cX7_bringHome 4 none 2 := ⟨TB_of 595 rfl rfl, TB_of 45 rfl rfl, by decide +kernel, by decide +kernel⟩
set_option maxRecDepth 20000 in
theorem mw_X7_dropOffersAtHome : MW yX7_dropOffersAtHome cX7_dropOffersAtHome 2 none 0 := ⟨TB_of 599 rfl rfl, TB_of 45 rfl rfl, by decide +kernel, by decide +kernel⟩
set_option maxRecDepth 20000 in
theorem mw_X7_blame : MW yX7_blame cX7_blame 2 (some (.int)) 1 := ⟨TB_of 603 rfl rfl, TB_of 45 rfl rfl, by decide +kernel, by decide +kernel⟩
set_option maxRecDepth 20000 in
theorem mw_X0_follow : MW yX0_follow cX0_follow 8 none 2 := ⟨TB_of 607 rfl rfl, TB_of 51 rfl rfl, by decide +kernel, by decide +kernel⟩
set_option maxRecDepth 20000 in
theorem mw_X0_isRed : MW yX0_isRed cX0_isRed 3 (some (.boolean)) 2 := ⟨TB_of 611 rfl rfl, TB_of 51 rfl rfl, by decide +kernel, by decide +kernel⟩
set_option maxRecDepth 20000 in
theorem mw_X0_withoutPiece : MW yX0_withoutPiece cX0_withoutPiece 9 (some (.int)) 2 := ⟨TB_of 617 rfl rfl, TB_of 51 rfl rfl, by decide +kernel, by decide +kernel⟩
set_option maxRecDepth 20000 in
theorem mw_X0_withoutLowest : MW yX0_withoutLowest cX0_withoutLowest 4 (some (.int)) 2 := ⟨TB_of 620 rfl rfl, TB_of 51 rfl rfl, by decide +kernel, by decide +kernel⟩
set_option maxRecDepth 20000 in
theorem mw_X7_runs : MW yX7_runs cX7_runs 2 (some (.int)) 1 := ⟨TB_of 627 rfl rfl, TB_of 45 rfl rfl, by decide +kernel, by decide +kernel⟩
set_option maxRecDepth 20000 in
theorem mw_X7_told : MW yX7_told cX7_told 3 (some (.int)) 2 := ⟨TB_of 631 rfl rfl, TB_of 45 rfl rfl, by decide +kernel, by decide +kernel⟩
set_option maxRecDepth 20000 in
theorem mw_X7_brought : MW yX7_brought cX7_brought 2 (some (.int)) 1 := ⟨TB_of 635 rfl rfl, TB_of 45 rfl rfl, by decide +kernel, by decide +kernel⟩
set_option maxRecDepth 20000 in
theorem mw_X7_isTrain : MW yX7_isTrain cX7_isTrain 2 (some (.boolean)) 1 := ⟨TB_of 639 rfl rfl, TB_of 45 rfl rfl, by decide +kernel, by decide +kernel⟩
set_option maxRecDepth 20000 in
theorem mw_X7_count : MW yX7_count cX7_count 2 (some (.int)) 1 := ⟨TB_of 643 rfl rfl, TB_of 45 rfl rfl, by decide +kernel, by decide +kernel⟩
set_option maxRecDepth 20000 in
theorem mw_X7_trainsOut : MW yX7_trainsOut cX7_trainsOut 3 (some (.int)) 0 := ⟨TB_of 647 rfl rfl, TB_of 45 rfl rfl, by decide +kernel, by decide +kernel⟩
set_option maxRecDepth 20000 in
theorem mw_X7_was : MW yX7_was cX7_was 6 (some (.int)) 3 := ⟨TB_of 656 rfl rfl, TB_of 45 rfl rfl, by decide +kernel, by decide +kernel⟩
set_option maxRecDepth 20000 in
theorem mw_X8_init : MW yX8_init cX8_init 1 none 0 := ⟨TB_of 728 rfl rfl, TB_of 56 rfl rfl, by decide +kernel, by decide +kernel⟩
set_option maxRecDepth 20000 in
theorem mw_X8_thrown : MW yX8_thrown cX8_thrown 1 (some (.int)) 0 := ⟨TB_of 834 rfl rfl, TB_of 56 rfl rfl, by decide +kernel, by decide +kernel⟩
set_option maxRecDepth 20000 in
theorem mw_X8_part : MW yX8_part cX8_part 2 (some (.int)) 1 := ⟨TB_of 838 rfl rfl, TB_of 56 rfl rfl, by decide +kernel, by decide +kernel⟩
set_option maxRecDepth 20000 in
theorem mw_X8_isIn : MW yX8_isIn cX8_isIn 3 (some (.boolean)) 3 := ⟨TB_of 841 rfl rfl, TB_of 56 rfl rfl, by decide +kernel, by decide +kernel⟩
set_option maxRecDepth 20000 in
theorem mw_X8_offer : MW yX8_offer cX8_offer 4 (some (.boolean)) 3 := ⟨TB_of 845 rfl rfl, TB_of 56 rfl rfl, by decide +kernel, by decide +kernel⟩
set_option maxRecDepth 20000 in
theorem mw_X8_isPart : MW yX8_isPart cX8_isPart 2 (some (.boolean)) 1 := ⟨TB_of 849 rfl rfl, TB_of 56 rfl rfl, by decide +kernel, by decide +kernel⟩
set_option maxRecDepth 20000 in
theorem mw_X8_isOf : MW yX8_isOf cX8_isOf 2 (some (.boolean)) 2 := ⟨TB_of 852 rfl rfl, TB_of 56 rfl rfl, by decide +kernel, by decide +kernel⟩
set_option maxRecDepth 20000 in
theorem mw_X8_withdraw : MW yX8_withdraw cX8_withdraw 2 (some (.boolean)) 1 := ⟨TB_of 856 rfl rfl, TB_of 56 rfl rfl, by decide +kernel, by decide +kernel⟩
set_option maxRecDepth 20000 in
theorem mw_X8_need : MW yX8_need cX8_need 6 (some (.int)) 5 := ⟨TB_of 860 rfl rfl, TB_of 56 rfl rfl, by decide +kernel, by decide +kernel⟩
set_option maxRecDepth 20000 in
theorem mw_X8_test : MW yX8_test cX8_test 2 (some (.int)) 1 := ⟨TB_of 864 rfl rfl, TB_of 56 rfl rfl, by decide +kernel, by decide +kernel⟩
set_option maxRecDepth 20000 in
theorem mw_X8_isSet : MW yX8_isSet cX8_isSet 2 (some (.boolean)) 1 := ⟨TB_of 868 rfl rfl, TB_of 56 rfl rfl, by decide +kernel, by decide +kernel⟩
set_option maxRecDepth 20000 in
theorem mw_X8_fits : MW yX8_fits cX8_fits 2 (some (.int)) 1 := ⟨TB_of 872 rfl rfl, TB_of 56 rfl rfl, by decide +kernel, by decide +kernel⟩
set_option maxRecDepth 20000 in
theorem mw_X8_offered : MW yX8_offered cX8_offered 3 (some (.int)) 0 := ⟨TB_of 876 rfl rfl, TB_of 56 rfl rfl, by decide +kernel, by decide +kernel⟩
set_option maxRecDepth 20000 in
theorem mw_X8_broken : MW yX8_broken cX8_broken 3 (some (.int)) 1 := ⟨TB_of 880 rfl rfl, TB_of 56 rfl rfl, by decide +kernel, by decide +kernel⟩
set_option maxRecDepth 20000 in
theorem mw_X8_version : MW yX8_version cX8_version 3 (some (.int)) 2 := ⟨TB_of 884 rfl rfl, TB_of 56 rfl rfl, by decide +kernel, by decide +kernel⟩
set_option maxRecDepth 20000 in
theorem mw_X8_red : MW yX8_red cX8_red 2 (some (.int)) 1 := ⟨TB_of 888 rfl rfl, TB_of 56 rfl rfl, by decide +kernel, by decide +kernel⟩
set_option maxRecDepth 20000 in
theorem mw_X8_redOf : MW yX8_redOf cX8_redOf 3 (some (.int)) 1 := ⟨TB_of 892 rfl rfl, TB_of 56 rfl rfl, by decide +kernel, by decide +kernel⟩
set_option maxRecDepth 20000 in
theorem mw_X8_cut : MW yX8_cut cX8_cut 2 (some (.int)) 0 := ⟨TB_of 896 rfl rfl, TB_of 56 rfl rfl, by decide +kernel, by decide +kernel⟩
set_option maxRecDepth 20000 in
theorem mw_X8_best : MW yX8_best cX8_best 6 (some (.int)) 2 := ⟨TB_of 900 rfl rfl, TB_of 56 rfl rfl, by decide +kernel, by decide +kernel⟩
set_option maxRecDepth 20000 in
theorem mw_X8_goes : MW yX8_goes cX8_goes 2 (some (.boolean)) 1 := ⟨TB_of 904 rfl rfl, TB_of 56 rfl rfl, by decide +kernel, by decide +kernel⟩
set_option maxRecDepth 20000 in
theorem mw_X8_worthOf : MW yX8_worthOf cX8_worthOf 4 (some (.int)) 1 := ⟨TB_of 908 rfl rfl, TB_of 56 rfl rfl, by decide +kernel, by decide +kernel⟩
set_option maxRecDepth 20000 in
theorem mw_X8_chosen : MW yX8_chosen cX8_chosen 1 (some (.int)) 0 := ⟨TB_of 912 rfl rfl, TB_of 56 rfl rfl, by decide +kernel, by decide +kernel⟩
set_option maxRecDepth 20000 in
theorem mw_X8_worth : MW yX8_worth cX8_worth 1 (some (.int)) 0 := ⟨TB_of 916 rfl rfl, TB_of 56 rfl rfl, by decide +kernel, by decide +kernel⟩
set_option maxRecDepth 20000 in
theorem mw_X8_why : MW yX8_why cX8_why 3 (some (.int)) 1 := ⟨TB_of 920 rfl rfl, TB_of 56 rfl rfl, by decide +kernel, by decide +kernel⟩
set_option maxRecDepth 20000 in
theorem mw_X8_fix : MW yX8_fix cX8_fix 4 (some (.int)) 3 := ⟨TB_of 924 rfl rfl, TB_of 56 rfl rfl, by decide +kernel, by decide +kernel⟩
set_option maxRecDepth 20000 in
theorem mw_X8_tries : MW yX8_tries cX8_tries 4 (some (.boolean)) 3 := ⟨TB_of 928 rfl rfl, TB_of 56 rfl rfl, by decide +kernel, by decide +kernel⟩
set_option maxRecDepth 20000 in
theorem mw_X8_leave : MW yX8_leave cX8_leave 5 (some (.int)) 3 := ⟨TB_of 932 rfl rfl, TB_of 56 rfl rfl, by decide +kernel, by decide +kernel⟩
set_option maxRecDepth 20000 in
theorem mw_X8_order : MW yX8_order cX8_order 2 (some (.int)) 1 := ⟨TB_of 936 rfl rfl, TB_of 56 rfl rfl, by decide +kernel, by decide +kernel⟩
set_option maxRecDepth 20000 in
theorem mw_X8_orders : MW yX8_orders cX8_orders 2 (some (.boolean)) 0 := ⟨TB_of 940 rfl rfl, TB_of 56 rfl rfl, by decide +kernel, by decide +kernel⟩
set_option maxRecDepth 20000 in
theorem mw_X8_goesOut : MW yX8_goesOut cX8_goesOut 4 (some (.boolean)) 2 := ⟨TB_of 944 rfl rfl, TB_of 56 rfl rfl, by decide +kernel, by decide +kernel⟩
set_option maxRecDepth 20000 in
theorem mw_X8_send : MW yX8_send cX8_send 2 (some (.int)) 0 := ⟨TB_of 948 rfl rfl, TB_of 56 rfl rfl, by decide +kernel, by decide +kernel⟩
set_option maxRecDepth 20000 in
theorem mw_X8_next : MW yX8_next cX8_next 2 none 0 := ⟨TB_of 952 rfl rfl, TB_of 56 rfl rfl, by decide +kernel, by decide +kernel⟩
set_option maxRecDepth 20000 in
theorem mw_X8_giveUp : MW yX8_giveUp cX8_giveUp 1 (some (.boolean)) 0 := ⟨TB_of 956 rfl rfl, TB_of 56 rfl rfl, by decide +kernel, by decide +kernel⟩
set_option maxRecDepth 20000 in
theorem mw_X8_oneWay : MW yX8_oneWay cX8_oneWay 5 (some (.boolean)) 3 := ⟨TB_of 960 rfl rfl, TB_of 56 rfl rfl, by decide +kernel, by decide +kernel⟩
set_option maxRecDepth 20000 in
theorem mw_X8_way : MW yX8_way cX8_way 4 (some (.int)) 2 := ⟨TB_of 964 rfl rfl, TB_of 56 rfl rfl, by decide +kernel, by decide +kernel⟩
set_option maxRecDepth 20000 in
theorem mw_X8_back : MW yX8_back cX8_back 4 (some (.int)) 0 := ⟨TB_of 968 rfl rfl, TB_of 56 rfl rfl, by decide +kernel, by decide +kernel⟩
set_option maxRecDepth 20000 in
theorem mw_X8_blame : MW yX8_blame cX8_blame 2 (some (.int)) 1 := ⟨TB_of 974 rfl rfl, TB_of 56 rfl rfl, by decide +kernel, by decide +kernel⟩
set_option maxRecDepth 20000 in
theorem mw_X8_blames : MW yX8_blames cX8_blames 7 none 1 := ⟨TB_of 978 rfl rfl, TB_of 56 rfl rfl, by decide +kernel, by decide +kernel⟩
set_option maxRecDepth 20000 in
theorem mw_X8_isRed : MW yX8_isRed cX8_isRed 2 (some (.boolean)) 1 := ⟨TB_of 982 rfl rfl, TB_of 56 rfl rfl, by decide +kernel, by decide +kernel⟩
set_option maxRecDepth 20000 in
theorem mw_X8_piece : MW yX8_piece cX8_piece 10 (some (.int)) 3 := ⟨TB_of 987 rfl rfl, TB_of 56 rfl rfl, by decide +kernel, by decide +kernel⟩
set_option maxRecDepth 20000 in
theorem mw_X8_runs : MW yX8_runs cX8_runs 2 (some (.int)) 1 := ⟨TB_of 993 rfl rfl, TB_of 56 rfl rfl, by decide +kernel, by decide +kernel⟩
set_option maxRecDepth 20000 in
theorem mw_X8_told : MW yX8_told cX8_told 3 (some (.int)) 2 := ⟨TB_of 997 rfl rfl, TB_of 56 rfl rfl, by decide +kernel, by decide +kernel⟩
set_option maxRecDepth 20000 in
theorem mw_X8_was : MW yX8_was cX8_was 4 (some (.int)) 3 := ⟨TB_of 1001 rfl rfl, TB_of 56 rfl rfl, by decide +kernel, by decide +kernel⟩
set_option maxRecDepth 20000 in
theorem mw_X8_brought : MW yX8_brought cX8_brought 2 (some (.int)) 1 := ⟨TB_of 1005 rfl rfl, TB_of 56 rfl rfl, by decide +kernel, by decide +kernel⟩
set_option maxRecDepth 20000 in
theorem mw_X8_count : MW yX8_count cX8_count 4 (some (.int)) 1 := ⟨TB_of 1009 rfl rfl, TB_of 56 rfl rfl, by decide +kernel, by decide +kernel⟩
set_option maxRecDepth 20000 in
theorem mi_L_15 : MI RL 15 yX7_init := ⟨TB_of 70 rfl rfl, TB_of 71 rfl rfl, rfl⟩
set_option maxRecDepth 20000 in
theorem mi_X7_15 : MI RX7 15 yX2_init := ⟨TB_of 78 rfl rfl, TB_of 79 rfl rfl, rfl⟩
set_option maxRecDepth 20000 in
theorem ms_X2_18 : MS RX2 18 yJ7_fill_53178 := ⟨TB_of 82 rfl rfl, TB_of 83 rfl rfl⟩
set_option maxRecDepth 20000 in
theorem mi_X7_25 : MI RX7 25 yX1_init := ⟨TB_of 95 rfl rfl, TB_of 96 rfl rfl, rfl⟩
set_option maxRecDepth 20000 in
theorem mi_X7_32 : MI RX7 32 yX5_init := ⟨TB_of 127 rfl rfl, TB_of 128 rfl rfl, rfl⟩
set_option maxRecDepth 20000 in
theorem mi_X7_39 : MI RX7 39 yX4_init := ⟨TB_of 141 rfl rfl, TB_of 142 rfl rfl, rfl⟩
set_option maxRecDepth 20000 in
theorem mi_X7_53 : MI RX7 53 yX3_init := ⟨TB_of 169 rfl rfl, TB_of 170 rfl rfl, rfl⟩
set_option maxRecDepth 20000 in
theorem mi_X7_60 : MI RX7 60 yJx4a65c_init_da8c8 := ⟨TB_of 186 rfl rfl, TB_of 187 rfl rfl, rfl⟩
set_option maxRecDepth 20000 in
theorem mi_Jx4a65c_1 : MI RJx4a65c 1 yJxc12de_init_da8c8 := ⟨TB_of 189 rfl rfl, TB_of 190 rfl rfl, rfl⟩
set_option maxRecDepth 20000 in
theorem mi_Jxc12de_1 : MI RJxc12de 1 yJxa1e45_init_da8c8 := ⟨TB_of 192 rfl rfl, TB_of 193 rfl rfl, rfl⟩
set_option maxRecDepth 20000 in
theorem mv_L_19 : MV RL 19 yX7_part := ⟨TB_of 244 rfl rfl, TB_of 245 rfl rfl, TB_of 246 rfl rfl⟩
set_option maxRecDepth 20000 in
theorem mv_X7_72 : MV RX7 72 yX7_isCutAtHand := ⟨TB_of 248 rfl rfl, TB_of 250 rfl rfl, TB_of 0 rfl rfl⟩
set_option maxRecDepth 20000 in
theorem ms_X7_76 : MS RX7 76 yX7_isVersion := ⟨TB_of 252 rfl rfl, TB_of 253 rfl rfl⟩
set_option maxRecDepth 20000 in
theorem mv_L_24 : MV RL 24 yX7_offer := ⟨TB_of 255 rfl rfl, TB_of 256 rfl rfl, TB_of 257 rfl rfl⟩
set_option maxRecDepth 20000 in
theorem mv_X7_80 : MV RX7 80 yX7_isPart := ⟨TB_of 259 rfl rfl, TB_of 261 rfl rfl, TB_of 1 rfl rfl⟩
set_option maxRecDepth 20000 in
theorem ms_X7_83 : MS RX7 83 yX7_isWorth := ⟨TB_of 263 rfl rfl, TB_of 264 rfl rfl⟩
set_option maxRecDepth 20000 in
theorem mv_X7_86 : MV RX7 86 yX7_homeToCome := ⟨TB_of 266 rfl rfl, TB_of 268 rfl rfl, TB_of 2 rfl rfl⟩
set_option maxRecDepth 20000 in
theorem mv_X7_134 : MV RX7 134 yX7_isChosen := ⟨TB_of 270 rfl rfl, TB_of 272 rfl rfl, TB_of 3 rfl rfl⟩
set_option maxRecDepth 20000 in
theorem mv_X7_141 : MV RX7 141 yX2_versionOf := ⟨TB_of 274 rfl rfl, TB_of 275 rfl rfl, TB_of 276 rfl rfl⟩
set_option maxRecDepth 20000 in
theorem mv_X7_90 : MV RX7 90 yX7_openOffers := ⟨TB_of 278 rfl rfl, TB_of 280 rfl rfl, TB_of 4 rfl rfl⟩
set_option maxRecDepth 20000 in
theorem mv_X7_94 : MV RX7 94 yX2_put := ⟨TB_of 282 rfl rfl, TB_of 283 rfl rfl, TB_of 284 rfl rfl⟩
set_option maxRecDepth 20000 in
theorem mv_L_29 : MV RL 29 yX7_withdraw := ⟨TB_of 286 rfl rfl, TB_of 287 rfl rfl, TB_of 288 rfl rfl⟩
set_option maxRecDepth 20000 in
theorem mv_X7_98 : MV RX7 98 yX2_has := ⟨TB_of 290 rfl rfl, TB_of 291 rfl rfl, TB_of 292 rfl rfl⟩
set_option maxRecDepth 20000 in
theorem mv_X2_24 : MV RX2 24 yX2_versionOf := ⟨TB_of 294 rfl rfl, TB_of 275 rfl rfl, TB_of 276 rfl rfl⟩
set_option maxRecDepth 20000 in
theorem mv_X7_101 : MV RX7 101 yX2_drop := ⟨TB_of 295 rfl rfl, TB_of 296 rfl rfl, TB_of 297 rfl rfl⟩
set_option maxRecDepth 20000 in
theorem mv_X2_28 : MV RX2 28 yX2_put := ⟨TB_of 299 rfl rfl, TB_of 283 rfl rfl, TB_of 284 rfl rfl⟩
set_option maxRecDepth 20000 in
theorem mv_L_34 : MV RL 34 yX7_need := ⟨TB_of 300 rfl rfl, TB_of 301 rfl rfl, TB_of 302 rfl rfl⟩
set_option maxRecDepth 20000 in
theorem mv_X7_105 : MV RX7 105 yX1_add := ⟨TB_of 304 rfl rfl, TB_of 305 rfl rfl, TB_of 306 rfl rfl⟩
set_option maxRecDepth 20000 in
theorem mv_L_39 : MV RL 39 yX7_test := ⟨TB_of 308 rfl rfl, TB_of 309 rfl rfl, TB_of 310 rfl rfl⟩
set_option maxRecDepth 20000 in
theorem mv_X7_109 : MV RX7 109 yX7_areParts := ⟨TB_of 312 rfl rfl, TB_of 314 rfl rfl, TB_of 5 rfl rfl⟩
set_option maxRecDepth 20000 in
theorem mv_X7_112 : MV RX7 112 yX5_add := ⟨TB_of 316 rfl rfl, TB_of 317 rfl rfl, TB_of 318 rfl rfl⟩
set_option maxRecDepth 20000 in
theorem mv_L_43 : MV RL 43 yX7_fits := ⟨TB_of 320 rfl rfl, TB_of 321 rfl rfl, TB_of 322 rfl rfl⟩
set_option maxRecDepth 20000 in
theorem mv_X7_114 : MV RX7 114 yX2_mask := ⟨TB_of 324 rfl rfl, TB_of 325 rfl rfl, TB_of 326 rfl rfl⟩
set_option maxRecDepth 20000 in
theorem mv_X7_118 : MV RX7 118 yX7_firstBroken := ⟨TB_of 328 rfl rfl, TB_of 330 rfl rfl, TB_of 6 rfl rfl⟩
set_option maxRecDepth 20000 in
theorem mv_X7_147 : MV RX7 147 yX1_weigh := ⟨TB_of 332 rfl rfl, TB_of 333 rfl rfl, TB_of 334 rfl rfl⟩
set_option maxRecDepth 20000 in
theorem mv_X1_37 : MV RX1 37 yX1_weighOne := ⟨TB_of 336 rfl rfl, TB_of 338 rfl rfl, TB_of 7 rfl rfl⟩
set_option maxRecDepth 20000 in
theorem mv_X1_41 : MV RX1 41 yX2_has := ⟨TB_of 340 rfl rfl, TB_of 291 rfl rfl, TB_of 292 rfl rfl⟩
set_option maxRecDepth 20000 in
theorem mv_X1_47 : MV RX1 47 yX2_versionOf := ⟨TB_of 341 rfl rfl, TB_of 275 rfl rfl, TB_of 276 rfl rfl⟩
set_option maxRecDepth 20000 in
theorem mv_X1_51 : MV RX1 51 yX1_holds := ⟨TB_of 342 rfl rfl, TB_of 344 rfl rfl, TB_of 8 rfl rfl⟩
set_option maxRecDepth 20000 in
theorem mv_X1_55 : MV RX1 55 yX1_neverBreaks := ⟨TB_of 346 rfl rfl, TB_of 348 rfl rfl, TB_of 9 rfl rfl⟩
set_option maxRecDepth 20000 in
theorem mv_X7_250 : MV RX7 250 yX1_firstBroken := ⟨TB_of 350 rfl rfl, TB_of 351 rfl rfl, TB_of 352 rfl rfl⟩
set_option maxRecDepth 20000 in
theorem mv_L_47 : MV RL 47 yX7_red := ⟨TB_of 354 rfl rfl, TB_of 355 rfl rfl, TB_of 356 rfl rfl⟩
set_option maxRecDepth 20000 in
theorem mv_X7_121 : MV RX7 121 yX5_firstRed := ⟨TB_of 358 rfl rfl, TB_of 359 rfl rfl, TB_of 360 rfl rfl⟩
set_option maxRecDepth 20000 in
theorem mv_L_51 : MV RL 51 yX7_cut := ⟨TB_of 362 rfl rfl, TB_of 363 rfl rfl, TB_of 364 rfl rfl⟩
set_option maxRecDepth 20000 in
theorem mv_X7_124 : MV RX7 124 yX7_greatest := ⟨TB_of 366 rfl rfl, TB_of 368 rfl rfl, TB_of 10 rfl rfl⟩
set_option maxRecDepth 20000 in
theorem mv_X7_131 : MV RX7 131 yX2_sum := ⟨TB_of 370 rfl rfl, TB_of 371 rfl rfl, TB_of 372 rfl rfl⟩
set_option maxRecDepth 20000 in
theorem ms_X7_251 : MS RX7 251 yX7_hasLowerPart := ⟨TB_of 374 rfl rfl, TB_of 375 rfl rfl⟩
set_option maxRecDepth 20000 in
theorem ms_X7_254 : MS RX7 254 yJ6_lowestOneBit_0f7a4 := ⟨TB_of 377 rfl rfl, TB_of 378 rfl rfl⟩
set_option maxRecDepth 20000 in
theorem mv_X7_151 : MV RX7 151 yX7_goes := ⟨TB_of 380 rfl rfl, TB_of 382 rfl rfl, TB_of 11 rfl rfl⟩
set_option maxRecDepth 20000 in
theorem mv_X7_128 : MV RX7 128 yX7_choose := ⟨TB_of 384 rfl rfl, TB_of 386 rfl rfl, TB_of 12 rfl rfl⟩
set_option maxRecDepth 20000 in
theorem mv_X7_257 : MV RX7 257 yX4_plan := ⟨TB_of 388 rfl rfl, TB_of 389 rfl rfl, TB_of 390 rfl rfl⟩
set_option maxRecDepth 20000 in
theorem ms_X4_19 : MS RX4 19 yJ6_bitCount_0f7a4 := ⟨TB_of 392 rfl rfl, TB_of 393 rfl rfl⟩
set_option maxRecDepth 20000 in
theorem mv_X4_25 : MV RX4 25 yX1_firstBroken := ⟨TB_of 398 rfl rfl, TB_of 351 rfl rfl, TB_of 352 rfl rfl⟩
set_option maxRecDepth 20000 in
theorem ms_X4_30 : MS RX4 30 yX4_firstOpen := ⟨TB_of 399 rfl rfl, TB_of 400 rfl rfl⟩
set_option maxRecDepth 20000 in
theorem mv_L_56 : MV RL 56 yX7_chosen := ⟨TB_of 402 rfl rfl, TB_of 403 rfl rfl, TB_of 404 rfl rfl⟩
set_option maxRecDepth 20000 in
theorem mv_L_60 : MV RL 60 yX7_worth := ⟨TB_of 406 rfl rfl, TB_of 407 rfl rfl, TB_of 408 rfl rfl⟩
set_option maxRecDepth 20000 in
theorem mv_L_64 : MV RL 64 yX7_why := ⟨TB_of 410 rfl rfl, TB_of 411 rfl rfl, TB_of 412 rfl rfl⟩
set_option maxRecDepth 20000 in
theorem mv_L_68 : MV RL 68 yX7_fix := ⟨TB_of 414 rfl rfl, TB_of 415 rfl rfl, TB_of 416 rfl rfl⟩
set_option maxRecDepth 20000 in
theorem mv_X7_137 : MV RX7 137 yX7_mayFix := ⟨TB_of 418 rfl rfl, TB_of 420 rfl rfl, TB_of 13 rfl rfl⟩
set_option maxRecDepth 20000 in
theorem mv_X7_144 : MV RX7 144 yX2_worthOf := ⟨TB_of 422 rfl rfl, TB_of 423 rfl rfl, TB_of 424 rfl rfl⟩
set_option maxRecDepth 20000 in
theorem mv_L_73 : MV RL 73 yX7_leave := ⟨TB_of 426 rfl rfl, TB_of 427 rfl rfl, TB_of 428 rfl rfl⟩
set_option maxRecDepth 20000 in
theorem mv_L_77 : MV RL 77 yX7_order := ⟨TB_of 430 rfl rfl, TB_of 431 rfl rfl, TB_of 432 rfl rfl⟩
set_option maxRecDepth 20000 in
theorem mv_X7_154 : MV RX7 154 yX4_partAt := ⟨TB_of 434 rfl rfl, TB_of 435 rfl rfl, TB_of 436 rfl rfl⟩
set_option maxRecDepth 20000 in
theorem mv_L_81 : MV RL 81 yX7_send := ⟨TB_of 438 rfl rfl, TB_of 439 rfl rfl, TB_of 440 rfl rfl⟩
set_option maxRecDepth 20000 in
theorem mv_X7_157 : MV RX7 157 yX4_isFound := ⟨TB_of 442 rfl rfl, TB_of 443 rfl rfl, TB_of 444 rfl rfl⟩
set_option maxRecDepth 20000 in
theorem mv_X7_160 : MV RX7 160 yJx4a65c_size_8abf5 := ⟨TB_of 446 rfl rfl, TB_of 447 rfl rfl, TB_of 448 rfl rfl⟩
set_option maxRecDepth 20000 in
theorem ms_X7_163 : MS RX7 163 yJ7_copyOf_59c91 := ⟨TB_of 450 rfl rfl, TB_of 451 rfl rfl⟩
set_option maxRecDepth 20000 in
theorem ms_J7_304 : MS RJ7 304 yJ9_min_7cf53 := ⟨TB_of 460 rfl rfl, TB_of 461 rfl rfl⟩
set_option maxRecDepth 20000 in
theorem mi_X7_171 : MI RX7 171 yX6_init := ⟨TB_of 468 rfl rfl, TB_of 469 rfl rfl, rfl⟩
set_option maxRecDepth 20000 in
theorem mv_X7_174 : MV RX7 174 yJx4a65c_add_9ea2d := ⟨TB_of 489 rfl rfl, TB_of 490 rfl rfl, TB_of 491 rfl rfl⟩
set_option maxRecDepth 20000 in
theorem mv_Jx4a65c_131 : MV RJx4a65c 131 yJx4a65c_add_72be8 := ⟨TB_of 493 rfl rfl, TB_of 495 rfl rfl, TB_of 14 rfl rfl⟩
set_option maxRecDepth 20000 in
theorem mv_Jx4a65c_129 : MV RJx4a65c 129 yJx4a65c_grow_d5877 := ⟨TB_of 497 rfl rfl, TB_of 499 rfl rfl, TB_of 15 rfl rfl⟩
set_option maxRecDepth 20000 in
theorem mv_Jx4a65c_69 : MV RJx4a65c 69 yJx4a65c_grow_92f84 := ⟨TB_of 501 rfl rfl, TB_of 503 rfl rfl, TB_of 16 rfl rfl⟩
set_option maxRecDepth 20000 in
theorem ms_Jx4a65c_73 : MS RJx4a65c 73 yJ8_newLength_cabcc := ⟨TB_of 505 rfl rfl, TB_of 506 rfl rfl⟩
set_option maxRecDepth 20000 in
theorem ms_J8_194 : MS RJ8 194 yJ9_max_7cf53 := ⟨TB_of 508 rfl rfl, TB_of 509 rfl rfl⟩
set_option maxRecDepth 20000 in
theorem ms_J8_201 : MS RJ8 201 yJ8_hugeLength_7cf53 := ⟨TB_of 512 rfl rfl, TB_of 513 rfl rfl⟩
set_option maxRecDepth 20000 in
theorem ms_Jx4a65c_66 : MS RJx4a65c 66 yJ7_copyOf_1904c := ⟨TB_of 515 rfl rfl, TB_of 516 rfl rfl⟩
set_option maxRecDepth 20000 in
theorem ms_J7_300 : MS RJ7 300 yJ7_copyOf_6403c := ⟨TB_of 533 rfl rfl, TB_of 534 rfl rfl⟩
set_option maxRecDepth 20000 in
theorem ms_Jx4a65c_79 : MS RJx4a65c 79 yJ9_max_7cf53 := ⟨TB_of 539 rfl rfl, TB_of 509 rfl rfl⟩
set_option maxRecDepth 20000 in
theorem mv_X7_177 : MV RX7 177 yX7_endCut := ⟨TB_of 541 rfl rfl, TB_of 543 rfl rfl, TB_of 17 rfl rfl⟩
set_option maxRecDepth 20000 in
theorem mv_L_85 : MV RL 85 yX7_giveUp := ⟨TB_of 545 rfl rfl, TB_of 546 rfl rfl, TB_of 547 rfl rfl⟩
set_option maxRecDepth 20000 in
theorem mv_L_90 : MV RL 90 yX7_oneWay := ⟨TB_of 549 rfl rfl, TB_of 550 rfl rfl, TB_of 551 rfl rfl⟩
set_option maxRecDepth 20000 in
theorem mv_X7_180 : MV RX7 180 yX3_add := ⟨TB_of 553 rfl rfl, TB_of 554 rfl rfl, TB_of 555 rfl rfl⟩
set_option maxRecDepth 20000 in
theorem mv_X3_22 : MV RX3 22 yX3_find := ⟨TB_of 557 rfl rfl, TB_of 558 rfl rfl, TB_of 559 rfl rfl⟩
set_option maxRecDepth 20000 in
theorem mv_X7_183 : MV RX7 183 yX3_remove := ⟨TB_of 561 rfl rfl, TB_of 562 rfl rfl, TB_of 563 rfl rfl⟩
set_option maxRecDepth 20000 in
theorem mv_L_95 : MV RL 95 yX7_back := ⟨TB_of 565 rfl rfl, TB_of 566 rfl rfl, TB_of 567 rfl rfl⟩
set_option maxRecDepth 20000 in
theorem mv_X7_186 : MV RX7 186 yX7_latestOut := ⟨TB_of 569 rfl rfl, TB_of 571 rfl rfl, TB_of 18 rfl rfl⟩
set_option maxRecDepth 20000 in
theorem mv_X7_189 : MV RX7 189 yJx4a65c_get_915e3 := ⟨TB_of 573 rfl rfl, TB_of 574 rfl rfl, TB_of 575 rfl rfl⟩
set_option maxRecDepth 20000 in
theorem ms_Jx4a65c_118 : MS RJx4a65c 118 yJ15_checkIndex_7cf53 := ⟨TB_of 577 rfl rfl, TB_of 578 rfl rfl⟩
set_option maxRecDepth 20000 in
theorem ms_J15_105 : MS RJ15 105 yJ3_checkIndex_8e157 := ⟨TB_of 580 rfl rfl, TB_of 581 rfl rfl⟩
set_option maxRecDepth 20000 in
theorem mv_Jx4a65c_123 : MV RJx4a65c 123 yJx4a65c_elementData_915e3 := ⟨TB_of 583 rfl rfl, TB_of 584 rfl rfl, TB_of 585 rfl rfl⟩
set_option maxRecDepth 20000 in
theorem mv_X7_196 : MV RX7 196 yX7_isStuck := ⟨TB_of 587 rfl rfl, TB_of 589 rfl rfl, TB_of 19 rfl rfl⟩
set_option maxRecDepth 20000 in
theorem mv_X7_261 : MV RX7 261 yX3_find := ⟨TB_of 591 rfl rfl, TB_of 558 rfl rfl, TB_of 559 rfl rfl⟩
set_option maxRecDepth 20000 in
theorem mv_X7_202 : MV RX7 202 yX7_bringHome := ⟨TB_of 592 rfl rfl, TB_of 594 rfl rfl, TB_of 20 rfl rfl⟩
set_option maxRecDepth 20000 in
theorem mv_X7_213 : MV RX7 213 yX7_dropOffersAtHome := ⟨TB_of 596 rfl rfl, TB_of 598 rfl rfl, TB_of 21 rfl rfl⟩
set_option maxRecDepth 20000 in
theorem mv_L_99 : MV RL 99 yX7_blame := ⟨TB_of 600 rfl rfl, TB_of 601 rfl rfl, TB_of 602 rfl rfl⟩
set_option maxRecDepth 20000 in
theorem mv_X7_216 : MV RX7 216 yX0_follow := ⟨TB_of 604 rfl rfl, TB_of 605 rfl rfl, TB_of 606 rfl rfl⟩
set_option maxRecDepth 20000 in
theorem mv_X0_15 : MV RX0 15 yX0_isRed := ⟨TB_of 608 rfl rfl, TB_of 610 rfl rfl, TB_of 22 rfl rfl⟩
set_option maxRecDepth 20000 in
theorem mv_X0_41 : MV RX0 41 yX5_firstRed := ⟨TB_of 612 rfl rfl, TB_of 359 rfl rfl, TB_of 360 rfl rfl⟩
set_option maxRecDepth 20000 in
theorem ms_X0_22 : MS RX0 22 yJ6_bitCount_0f7a4 := ⟨TB_of 613 rfl rfl, TB_of 393 rfl rfl⟩
set_option maxRecDepth 20000 in
theorem mv_X0_28 : MV RX0 28 yX0_withoutPiece := ⟨TB_of 614 rfl rfl, TB_of 616 rfl rfl, TB_of 23 rfl rfl⟩
set_option maxRecDepth 20000 in
theorem ms_X0_46 : MS RX0 46 yX0_withoutLowest := ⟨TB_of 618 rfl rfl, TB_of 619 rfl rfl⟩
set_option maxRecDepth 20000 in
theorem ms_X0_49 : MS RX0 49 yJ6_lowestOneBit_0f7a4 := ⟨TB_of 621 rfl rfl, TB_of 378 rfl rfl⟩
set_option maxRecDepth 20000 in
theorem ms_X0_32 : MS RX0 32 yJ9_max_7cf53 := ⟨TB_of 622 rfl rfl, TB_of 509 rfl rfl⟩
set_option maxRecDepth 20000 in
theorem ms_X0_38 : MS RX0 38 yJ9_min_7cf53 := ⟨TB_of 623 rfl rfl, TB_of 461 rfl rfl⟩
set_option maxRecDepth 20000 in
theorem mv_L_103 : MV RL 103 yX7_runs := ⟨TB_of 624 rfl rfl, TB_of 625 rfl rfl, TB_of 626 rfl rfl⟩
set_option maxRecDepth 20000 in
theorem mv_L_107 : MV RL 107 yX7_told := ⟨TB_of 628 rfl rfl, TB_of 629 rfl rfl, TB_of 630 rfl rfl⟩
set_option maxRecDepth 20000 in
theorem mv_L_121 : MV RL 121 yX7_brought := ⟨TB_of 632 rfl rfl, TB_of 633 rfl rfl, TB_of 634 rfl rfl⟩
set_option maxRecDepth 20000 in
theorem mv_X7_226 : MV RX7 226 yX7_isTrain := ⟨TB_of 636 rfl rfl, TB_of 638 rfl rfl, TB_of 24 rfl rfl⟩
set_option maxRecDepth 20000 in
theorem mv_L_125 : MV RL 125 yX7_count := ⟨TB_of 640 rfl rfl, TB_of 641 rfl rfl, TB_of 642 rfl rfl⟩
set_option maxRecDepth 20000 in
theorem mv_X7_241 : MV RX7 241 yX7_trainsOut := ⟨TB_of 644 rfl rfl, TB_of 646 rfl rfl, TB_of 25 rfl rfl⟩
set_option maxRecDepth 20000 in
theorem ms_X7_244 : MS RX7 244 yJ6_bitCount_0f7a4 := ⟨TB_of 648 rfl rfl, TB_of 393 rfl rfl⟩
set_option maxRecDepth 20000 in
theorem ms_L_112 : MS RL 112 yL_was := ⟨TB_of 649 rfl rfl, TB_of 650 rfl rfl⟩
set_option maxRecDepth 20000 in
theorem mv_L_7 : MV RL 7 yX7_was := ⟨TB_of 653 rfl rfl, TB_of 654 rfl rfl, TB_of 655 rfl rfl⟩
set_option maxRecDepth 20000 in
theorem mi_L_18 : MI RL 18 yX8_init := ⟨TB_of 726 rfl rfl, TB_of 727 rfl rfl, rfl⟩
set_option maxRecDepth 20000 in
theorem mv_L_118 : MV RL 118 yX8_thrown := ⟨TB_of 831 rfl rfl, TB_of 832 rfl rfl, TB_of 833 rfl rfl⟩
set_option maxRecDepth 20000 in
theorem mv_L_23 : MV RL 23 yX8_part := ⟨TB_of 835 rfl rfl, TB_of 836 rfl rfl, TB_of 837 rfl rfl⟩
set_option maxRecDepth 20000 in
theorem ms_X8_82 : MS RX8 82 yX8_isIn := ⟨TB_of 839 rfl rfl, TB_of 840 rfl rfl⟩
set_option maxRecDepth 20000 in
theorem mv_L_28 : MV RL 28 yX8_offer := ⟨TB_of 842 rfl rfl, TB_of 843 rfl rfl, TB_of 844 rfl rfl⟩
set_option maxRecDepth 20000 in
theorem mv_X8_86 : MV RX8 86 yX8_isPart := ⟨TB_of 846 rfl rfl, TB_of 848 rfl rfl, TB_of 27 rfl rfl⟩
set_option maxRecDepth 20000 in
theorem ms_X8_93 : MS RX8 93 yX8_isOf := ⟨TB_of 850 rfl rfl, TB_of 851 rfl rfl⟩
set_option maxRecDepth 20000 in
theorem mv_L_33 : MV RL 33 yX8_withdraw := ⟨TB_of 853 rfl rfl, TB_of 854 rfl rfl, TB_of 855 rfl rfl⟩
set_option maxRecDepth 20000 in
theorem mv_L_38 : MV RL 38 yX8_need := ⟨TB_of 857 rfl rfl, TB_of 858 rfl rfl, TB_of 859 rfl rfl⟩
set_option maxRecDepth 20000 in
theorem mv_L_42 : MV RL 42 yX8_test := ⟨TB_of 861 rfl rfl, TB_of 862 rfl rfl, TB_of 863 rfl rfl⟩
set_option maxRecDepth 20000 in
theorem mv_X8_103 : MV RX8 103 yX8_isSet := ⟨TB_of 865 rfl rfl, TB_of 867 rfl rfl, TB_of 28 rfl rfl⟩
set_option maxRecDepth 20000 in
theorem mv_L_46 : MV RL 46 yX8_fits := ⟨TB_of 869 rfl rfl, TB_of 870 rfl rfl, TB_of 871 rfl rfl⟩
set_option maxRecDepth 20000 in
theorem mv_X8_110 : MV RX8 110 yX8_offered := ⟨TB_of 873 rfl rfl, TB_of 875 rfl rfl, TB_of 29 rfl rfl⟩
set_option maxRecDepth 20000 in
theorem mv_X8_114 : MV RX8 114 yX8_broken := ⟨TB_of 877 rfl rfl, TB_of 879 rfl rfl, TB_of 30 rfl rfl⟩
set_option maxRecDepth 20000 in
theorem mv_X8_106 : MV RX8 106 yX8_version := ⟨TB_of 881 rfl rfl, TB_of 883 rfl rfl, TB_of 31 rfl rfl⟩
set_option maxRecDepth 20000 in
theorem mv_L_50 : MV RL 50 yX8_red := ⟨TB_of 885 rfl rfl, TB_of 886 rfl rfl, TB_of 887 rfl rfl⟩
set_option maxRecDepth 20000 in
theorem mv_X8_118 : MV RX8 118 yX8_redOf := ⟨TB_of 889 rfl rfl, TB_of 891 rfl rfl, TB_of 32 rfl rfl⟩
set_option maxRecDepth 20000 in
theorem mv_L_55 : MV RL 55 yX8_cut := ⟨TB_of 893 rfl rfl, TB_of 894 rfl rfl, TB_of 895 rfl rfl⟩
set_option maxRecDepth 20000 in
theorem mv_X8_127 : MV RX8 127 yX8_best := ⟨TB_of 897 rfl rfl, TB_of 899 rfl rfl, TB_of 33 rfl rfl⟩
set_option maxRecDepth 20000 in
theorem mv_X8_121 : MV RX8 121 yX8_goes := ⟨TB_of 901 rfl rfl, TB_of 903 rfl rfl, TB_of 34 rfl rfl⟩
set_option maxRecDepth 20000 in
theorem mv_X8_124 : MV RX8 124 yX8_worthOf := ⟨TB_of 905 rfl rfl, TB_of 907 rfl rfl, TB_of 35 rfl rfl⟩
set_option maxRecDepth 20000 in
theorem mv_L_59 : MV RL 59 yX8_chosen := ⟨TB_of 909 rfl rfl, TB_of 910 rfl rfl, TB_of 911 rfl rfl⟩
set_option maxRecDepth 20000 in
theorem mv_L_63 : MV RL 63 yX8_worth := ⟨TB_of 913 rfl rfl, TB_of 914 rfl rfl, TB_of 915 rfl rfl⟩
set_option maxRecDepth 20000 in
theorem mv_L_67 : MV RL 67 yX8_why := ⟨TB_of 917 rfl rfl, TB_of 918 rfl rfl, TB_of 919 rfl rfl⟩
set_option maxRecDepth 20000 in
theorem mv_L_72 : MV RL 72 yX8_fix := ⟨TB_of 921 rfl rfl, TB_of 922 rfl rfl, TB_of 923 rfl rfl⟩
set_option maxRecDepth 20000 in
theorem mv_X8_136 : MV RX8 136 yX8_tries := ⟨TB_of 925 rfl rfl, TB_of 927 rfl rfl, TB_of 36 rfl rfl⟩
set_option maxRecDepth 20000 in
theorem mv_L_76 : MV RL 76 yX8_leave := ⟨TB_of 929 rfl rfl, TB_of 930 rfl rfl, TB_of 931 rfl rfl⟩
set_option maxRecDepth 20000 in
theorem mv_L_80 : MV RL 80 yX8_order := ⟨TB_of 933 rfl rfl, TB_of 934 rfl rfl, TB_of 935 rfl rfl⟩
set_option maxRecDepth 20000 in
theorem mv_X8_145 : MV RX8 145 yX8_orders := ⟨TB_of 937 rfl rfl, TB_of 939 rfl rfl, TB_of 37 rfl rfl⟩
set_option maxRecDepth 20000 in
theorem mv_X8_142 : MV RX8 142 yX8_goesOut := ⟨TB_of 941 rfl rfl, TB_of 943 rfl rfl, TB_of 38 rfl rfl⟩
set_option maxRecDepth 20000 in
theorem mv_L_84 : MV RL 84 yX8_send := ⟨TB_of 945 rfl rfl, TB_of 946 rfl rfl, TB_of 947 rfl rfl⟩
set_option maxRecDepth 20000 in
theorem mv_X8_152 : MV RX8 152 yX8_next := ⟨TB_of 949 rfl rfl, TB_of 951 rfl rfl, TB_of 39 rfl rfl⟩
set_option maxRecDepth 20000 in
theorem mv_L_89 : MV RL 89 yX8_giveUp := ⟨TB_of 953 rfl rfl, TB_of 954 rfl rfl, TB_of 955 rfl rfl⟩
set_option maxRecDepth 20000 in
theorem mv_L_94 : MV RL 94 yX8_oneWay := ⟨TB_of 957 rfl rfl, TB_of 958 rfl rfl, TB_of 959 rfl rfl⟩
set_option maxRecDepth 20000 in
theorem mv_X8_158 : MV RX8 158 yX8_way := ⟨TB_of 961 rfl rfl, TB_of 963 rfl rfl, TB_of 40 rfl rfl⟩
set_option maxRecDepth 20000 in
theorem mv_L_98 : MV RL 98 yX8_back := ⟨TB_of 965 rfl rfl, TB_of 966 rfl rfl, TB_of 967 rfl rfl⟩
set_option maxRecDepth 20000 in
theorem mv_L_102 : MV RL 102 yX8_blame := ⟨TB_of 971 rfl rfl, TB_of 972 rfl rfl, TB_of 973 rfl rfl⟩
set_option maxRecDepth 20000 in
theorem mv_X8_192 : MV RX8 192 yX8_blames := ⟨TB_of 975 rfl rfl, TB_of 977 rfl rfl, TB_of 41 rfl rfl⟩
set_option maxRecDepth 20000 in
theorem mv_X8_182 : MV RX8 182 yX8_isRed := ⟨TB_of 979 rfl rfl, TB_of 981 rfl rfl, TB_of 42 rfl rfl⟩
set_option maxRecDepth 20000 in
theorem ms_X8_169 : MS RX8 169 yJ6_bitCount_0f7a4 := ⟨TB_of 983 rfl rfl, TB_of 393 rfl rfl⟩
set_option maxRecDepth 20000 in
theorem mv_X8_185 : MV RX8 185 yX8_piece := ⟨TB_of 984 rfl rfl, TB_of 986 rfl rfl, TB_of 43 rfl rfl⟩
set_option maxRecDepth 20000 in
theorem ms_X8_174 : MS RX8 174 yJ9_min_7cf53 := ⟨TB_of 988 rfl rfl, TB_of 461 rfl rfl⟩
set_option maxRecDepth 20000 in
theorem ms_X8_189 : MS RX8 189 yJ9_max_7cf53 := ⟨TB_of 989 rfl rfl, TB_of 509 rfl rfl⟩
set_option maxRecDepth 20000 in
theorem mv_L_106 : MV RL 106 yX8_runs := ⟨TB_of 990 rfl rfl, TB_of 991 rfl rfl, TB_of 992 rfl rfl⟩
set_option maxRecDepth 20000 in
theorem mv_L_111 : MV RL 111 yX8_told := ⟨TB_of 994 rfl rfl, TB_of 995 rfl rfl, TB_of 996 rfl rfl⟩
set_option maxRecDepth 20000 in
theorem mv_L_117 : MV RL 117 yX8_was := ⟨TB_of 998 rfl rfl, TB_of 999 rfl rfl, TB_of 1000 rfl rfl⟩
set_option maxRecDepth 20000 in
theorem mv_L_124 : MV RL 124 yX8_brought := ⟨TB_of 1002 rfl rfl, TB_of 1003 rfl rfl, TB_of 1004 rfl rfl⟩
set_option maxRecDepth 20000 in
theorem mv_L_128 : MV RL 128 yX8_count := ⟨TB_of 1006 rfl rfl, TB_of 1007 rfl rfl, TB_of 1008 rfl rfl⟩
set_option maxRecDepth 20000 in
theorem fl_X2_9 : FL RX2 9 2 0 := ⟨RX2, TX2, 2, rfl, by decide, ui_X2, TB_of 85 rfl rfl⟩
set_option maxRecDepth 20000 in
theorem fp_X2_9 : FP RX2 9 2 0 (.array .int) true := ⟨RX2, TX2, 2, tyX2, rfl, by decide, ui_X2, TB_of 85 rfl rfl, tyX2_ok, nmX2, rfl, by decide +kernel, fun _ => rfl⟩
set_option maxRecDepth 20000 in
theorem fl_X2_15 : FL RX2 15 2 1 := ⟨RX2, TX2, 2, rfl, by decide, ui_X2, TB_of 86 rfl rfl⟩
set_option maxRecDepth 20000 in
theorem fp_X2_15 : FP RX2 15 2 1 (.array .int) true := ⟨RX2, TX2, 2, tyX2, rfl, by decide, ui_X2, TB_of 86 rfl rfl, tyX2_ok, nmX2, rfl, by decide +kernel, fun _ => rfl⟩
set_option maxRecDepth 20000 in
theorem fl_X1_9 : FL RX1 9 1 0 := ⟨RX1, TX1, 8, rfl, by decide, ui_X1, TB_of 99 rfl rfl⟩
set_option maxRecDepth 20000 in
theorem fp_X1_9 : FP RX1 9 1 0 (.array .int) true := ⟨RX1, TX1, 8, tyX1, rfl, by decide, ui_X1, TB_of 99 rfl rfl, tyX1_ok, nmX1, rfl, by decide +kernel, fun _ => rfl⟩
set_option maxRecDepth 20000 in
theorem fl_X1_15 : FL RX1 15 1 1 := ⟨RX1, TX1, 8, rfl, by decide, ui_X1, TB_of 100 rfl rfl⟩
set_option maxRecDepth 20000 in
theorem fp_X1_15 : FP RX1 15 1 1 (.array .int) true := ⟨RX1, TX1, 8, tyX1, rfl, by decide, ui_X1, TB_of 100 rfl rfl, tyX1_ok, nmX1, rfl, by decide +kernel, fun _ => rfl⟩
set_option maxRecDepth 20000 in
theorem fl_X1_18 : FL RX1 18 1 2 := ⟨RX1, TX1, 8, rfl, by decide, ui_X1, TB_of 101 rfl rfl⟩
set_option maxRecDepth 20000 in
theorem fp_X1_18 : FP RX1 18 1 2 (.array .int) true := ⟨RX1, TX1, 8, tyX1, rfl, by decide, ui_X1, TB_of 101 rfl rfl, tyX1_ok, nmX1, rfl, by decide +kernel, fun _ => rfl⟩
set_option maxRecDepth 20000 in
theorem fl_X1_21 : FL RX1 21 1 3 := ⟨RX1, TX1, 8, rfl, by decide, ui_X1, TB_of 102 rfl rfl⟩
set_option maxRecDepth 20000 in
theorem fp_X1_21 : FP RX1 21 1 3 (.array .int) true := ⟨RX1, TX1, 8, tyX1, rfl, by decide, ui_X1, TB_of 102 rfl rfl, tyX1_ok, nmX1, rfl, by decide +kernel, fun _ => rfl⟩
set_option maxRecDepth 20000 in
theorem fl_X1_24 : FL RX1 24 1 4 := ⟨RX1, TX1, 8, rfl, by decide, ui_X1, TB_of 103 rfl rfl⟩
set_option maxRecDepth 20000 in
theorem fp_X1_24 : FP RX1 24 1 4 (.array .int) true := ⟨RX1, TX1, 8, tyX1, rfl, by decide, ui_X1, TB_of 103 rfl rfl, tyX1_ok, nmX1, rfl, by decide +kernel, fun _ => rfl⟩
set_option maxRecDepth 20000 in
theorem fl_X1_27 : FL RX1 27 1 5 := ⟨RX1, TX1, 8, rfl, by decide, ui_X1, TB_of 104 rfl rfl⟩
set_option maxRecDepth 20000 in
theorem fp_X1_27 : FP RX1 27 1 5 (.array .int) true := ⟨RX1, TX1, 8, tyX1, rfl, by decide, ui_X1, TB_of 104 rfl rfl, tyX1_ok, nmX1, rfl, by decide +kernel, fun _ => rfl⟩
set_option maxRecDepth 20000 in
theorem fl_X1_30 : FL RX1 30 1 6 := ⟨RX1, TX1, 8, rfl, by decide, ui_X1, TB_of 105 rfl rfl⟩
set_option maxRecDepth 20000 in
theorem fp_X1_30 : FP RX1 30 1 6 (.array .int) true := ⟨RX1, TX1, 8, tyX1, rfl, by decide, ui_X1, TB_of 105 rfl rfl, tyX1_ok, nmX1, rfl, by decide +kernel, fun _ => rfl⟩
set_option maxRecDepth 20000 in
theorem fl_X1_33 : FL RX1 33 1 7 := ⟨RX1, TX1, 8, rfl, by decide, ui_X1, TB_of 106 rfl rfl⟩
set_option maxRecDepth 20000 in
theorem fp_X1_33 : FP RX1 33 1 7 (.int) false := ⟨RX1, TX1, 8, tyX1, rfl, by decide, ui_X1, TB_of 106 rfl rfl, tyX1_ok, nmX1, rfl, by decide +kernel, fun _ => rfl⟩
set_option maxRecDepth 20000 in
theorem fl_X5_9 : FL RX5 9 5 0 := ⟨RX5, TX5, 2, rfl, by decide, ui_X5, TB_of 131 rfl rfl⟩
set_option maxRecDepth 20000 in
theorem fp_X5_9 : FP RX5 9 5 0 (.array .int) true := ⟨RX5, TX5, 2, tyX5, rfl, by decide, ui_X5, TB_of 131 rfl rfl, tyX5_ok, nmX5, rfl, by decide +kernel, fun _ => rfl⟩
set_option maxRecDepth 20000 in
theorem fl_X5_15 : FL RX5 15 5 1 := ⟨RX5, TX5, 2, rfl, by decide, ui_X5, TB_of 132 rfl rfl⟩
set_option maxRecDepth 20000 in
theorem fp_X5_15 : FP RX5 15 5 1 (.int) false := ⟨RX5, TX5, 2, tyX5, rfl, by decide, ui_X5, TB_of 132 rfl rfl, tyX5_ok, nmX5, rfl, by decide +kernel, fun _ => rfl⟩
set_option maxRecDepth 20000 in
theorem fl_X4_9 : FL RX4 9 4 0 := ⟨RX4, TX4, 2, rfl, by decide, ui_X4, TB_of 145 rfl rfl⟩
set_option maxRecDepth 20000 in
theorem fp_X4_9 : FP RX4 9 4 0 (.array .int) true := ⟨RX4, TX4, 2, tyX4, rfl, by decide, ui_X4, TB_of 145 rfl rfl, tyX4_ok, nmX4, rfl, by decide +kernel, fun _ => rfl⟩
set_option maxRecDepth 20000 in
theorem fl_X4_15 : FL RX4 15 4 1 := ⟨RX4, TX4, 2, rfl, by decide, ui_X4, TB_of 146 rfl rfl⟩
set_option maxRecDepth 20000 in
theorem fp_X4_15 : FP RX4 15 4 1 (.int) false := ⟨RX4, TX4, 2, tyX4, rfl, by decide, ui_X4, TB_of 146 rfl rfl, tyX4_ok, nmX4, rfl, by decide +kernel, fun _ => rfl⟩
set_option maxRecDepth 20000 in
theorem fl_X0_19 : FL RX0 19 0 0 := ⟨RX0, TX0, 2, rfl, by decide, ui_X0, TB_of 158 rfl rfl⟩
set_option maxRecDepth 20000 in
theorem fp_X0_19 : FP RX0 19 0 0 (.int) false := ⟨RX0, TX0, 2, tyX0, rfl, by decide, ui_X0, TB_of 158 rfl rfl, tyX0_ok, nmX0, rfl, by decide +kernel, fun _ => rfl⟩
set_option maxRecDepth 20000 in
theorem fl_X0_9 : FL RX0 9 0 1 := ⟨RX0, TX0, 2, rfl, by decide, ui_X0, TB_of 160 rfl rfl⟩
set_option maxRecDepth 20000 in
theorem fp_X0_9 : FP RX0 9 0 1 (.int) false := ⟨RX0, TX0, 2, tyX0, rfl, by decide, ui_X0, TB_of 160 rfl rfl, tyX0_ok, nmX0, rfl, by decide +kernel, fun _ => rfl⟩
set_option maxRecDepth 20000 in
theorem fl_X3_9 : FL RX3 9 3 0 := ⟨RX3, TX3, 3, rfl, by decide, ui_X3, TB_of 173 rfl rfl⟩
set_option maxRecDepth 20000 in
theorem fp_X3_9 : FP RX3 9 3 0 (.array .int) true := ⟨RX3, TX3, 3, tyX3, rfl, by decide, ui_X3, TB_of 173 rfl rfl, tyX3_ok, nmX3, rfl, by decide +kernel, fun _ => rfl⟩
set_option maxRecDepth 20000 in
theorem fl_X3_15 : FL RX3 15 3 1 := ⟨RX3, TX3, 3, rfl, by decide, ui_X3, TB_of 174 rfl rfl⟩
set_option maxRecDepth 20000 in
theorem fp_X3_15 : FP RX3 15 3 1 (.array .int) true := ⟨RX3, TX3, 3, tyX3, rfl, by decide, ui_X3, TB_of 174 rfl rfl, tyX3_ok, nmX3, rfl, by decide +kernel, fun _ => rfl⟩
set_option maxRecDepth 20000 in
theorem fl_X3_18 : FL RX3 18 3 2 := ⟨RX3, TX3, 3, rfl, by decide, ui_X3, TB_of 175 rfl rfl⟩
set_option maxRecDepth 20000 in
theorem fp_X3_18 : FP RX3 18 3 2 (.int) false := ⟨RX3, TX3, 3, tyX3, rfl, by decide, ui_X3, TB_of 175 rfl rfl, tyX3_ok, nmX3, rfl, by decide +kernel, fun _ => rfl⟩
set_option maxRecDepth 20000 in
theorem fl_Jx4a65c_9 : FL RJx4a65c 9 9 1 := ⟨RJx4a65c, TJx4a65c, 3, rfl, by decide, ui_Jx4a65c, TB_of 198 rfl rfl⟩
set_option maxRecDepth 20000 in
theorem fp_Jx4a65c_9 : FP RJx4a65c 9 9 1 (.array (.object "java/lang/Object")) false := ⟨RJx4a65c, TJx4a65c, 3, tyJx4a65c, rfl, by decide, ui_Jx4a65c, TB_of 198 rfl rfl, tyJx4a65c_ok, nmJx4a65c, rfl, by decide +kernel, fun _ => rfl⟩
set_option maxRecDepth 20000 in
theorem fl_Jx4a65c_48 : FL RJx4a65c 48 9 2 := ⟨RJx4a65c, TJx4a65c, 3, rfl, by decide, ui_Jx4a65c, TB_of 199 rfl rfl⟩
set_option maxRecDepth 20000 in
theorem fp_Jx4a65c_48 : FP RJx4a65c 48 9 2 (.int) false := ⟨RJx4a65c, TJx4a65c, 3, tyJx4a65c, rfl, by decide, ui_Jx4a65c, TB_of 199 rfl rfl, tyJx4a65c_ok, nmJx4a65c, rfl, by decide +kernel, fun _ => rfl⟩
set_option maxRecDepth 20000 in
theorem fl_Jxc12de_7 : FL RJxc12de 7 9 0 := ⟨RJx4a65c, TJx4a65c, 3, rfl, by decide, ui_Jx4a65c, TB_of 200 rfl rfl⟩
set_option maxRecDepth 20000 in
theorem fp_Jxc12de_7 : FP RJxc12de 7 9 0 (.int) false := ⟨RJx4a65c, TJx4a65c, 3, tyJx4a65c, rfl, by decide, ui_Jx4a65c, TB_of 200 rfl rfl, tyJx4a65c_ok, nmJx4a65c, rfl, by decide +kernel, fun _ => rfl⟩
set_option maxRecDepth 20000 in
theorem fl_X7_9 : FL RX7 9 7 0 := ⟨RX7, TX7, 11, rfl, by decide, ui_X7, TB_of 210 rfl rfl⟩
set_option maxRecDepth 20000 in
theorem fp_X7_9 : FP RX7 9 7 0 (.array .int) true := ⟨RX7, TX7, 11, tyX7, rfl, by decide, ui_X7, TB_of 210 rfl rfl, tyX7_ok, nmX7, rfl, by decide +kernel, fun _ => rfl⟩
set_option maxRecDepth 20000 in
theorem fl_X7_16 : FL RX7 16 7 1 := ⟨RX7, TX7, 11, rfl, by decide, ui_X7, TB_of 211 rfl rfl⟩
set_option maxRecDepth 20000 in
theorem fp_X7_16 : FP RX7 16 7 1 (.object "TrainDesk$Offers") true := ⟨RX7, TX7, 11, tyX7, rfl, by decide, ui_X7, TB_of 211 rfl rfl, tyX7_ok, nmX7, rfl, by decide +kernel, fun _ => rfl⟩
set_option maxRecDepth 20000 in
theorem fl_X7_20 : FL RX7 20 7 2 := ⟨RX7, TX7, 11, rfl, by decide, ui_X7, TB_of 212 rfl rfl⟩
set_option maxRecDepth 20000 in
theorem fp_X7_20 : FP RX7 20 7 2 (.object "TrainDesk$Offers") true := ⟨RX7, TX7, 11, tyX7, rfl, by decide, ui_X7, TB_of 212 rfl rfl, tyX7_ok, nmX7, rfl, by decide +kernel, fun _ => rfl⟩
set_option maxRecDepth 20000 in
theorem fl_X7_26 : FL RX7 26 7 3 := ⟨RX7, TX7, 11, rfl, by decide, ui_X7, TB_of 213 rfl rfl⟩
set_option maxRecDepth 20000 in
theorem fp_X7_26 : FP RX7 26 7 3 (.object "TrainDesk$Needs") true := ⟨RX7, TX7, 11, tyX7, rfl, by decide, ui_X7, TB_of 213 rfl rfl, tyX7_ok, nmX7, rfl, by decide +kernel, fun _ => rfl⟩
set_option maxRecDepth 20000 in
theorem fl_X7_33 : FL RX7 33 7 4 := ⟨RX7, TX7, 11, rfl, by decide, ui_X7, TB_of 214 rfl rfl⟩
set_option maxRecDepth 20000 in
theorem fp_X7_33 : FP RX7 33 7 4 (.object "TrainDesk$Tests") true := ⟨RX7, TX7, 11, tyX7, rfl, by decide, ui_X7, TB_of 214 rfl rfl, tyX7_ok, nmX7, rfl, by decide +kernel, fun _ => rfl⟩
set_option maxRecDepth 20000 in
theorem fl_X7_40 : FL RX7 40 7 5 := ⟨RX7, TX7, 11, rfl, by decide, ui_X7, TB_of 215 rfl rfl⟩
set_option maxRecDepth 20000 in
theorem fp_X7_40 : FP RX7 40 7 5 (.object "TrainDesk$Route") true := ⟨RX7, TX7, 11, tyX7, rfl, by decide, ui_X7, TB_of 215 rfl rfl, tyX7_ok, nmX7, rfl, by decide +kernel, fun _ => rfl⟩
set_option maxRecDepth 20000 in
theorem fl_X7_47 : FL RX7 47 7 6 := ⟨RX7, TX7, 11, rfl, by decide, ui_X7, TB_of 216 rfl rfl⟩
set_option maxRecDepth 20000 in
theorem fp_X7_47 : FP RX7 47 7 6 (.object "TrainDesk$Hunt") true := ⟨RX7, TX7, 11, tyX7, rfl, by decide, ui_X7, TB_of 216 rfl rfl, tyX7_ok, nmX7, rfl, by decide +kernel, fun _ => rfl⟩
set_option maxRecDepth 20000 in
theorem fl_X7_54 : FL RX7 54 7 7 := ⟨RX7, TX7, 11, rfl, by decide, ui_X7, TB_of 217 rfl rfl⟩
set_option maxRecDepth 20000 in
theorem fp_X7_54 : FP RX7 54 7 7 (.object "TrainDesk$OneWays") true := ⟨RX7, TX7, 11, tyX7, rfl, by decide, ui_X7, TB_of 217 rfl rfl, tyX7_ok, nmX7, rfl, by decide +kernel, fun _ => rfl⟩
set_option maxRecDepth 20000 in
theorem fl_X7_61 : FL RX7 61 7 8 := ⟨RX7, TX7, 11, rfl, by decide, ui_X7, TB_of 218 rfl rfl⟩
set_option maxRecDepth 20000 in
theorem fp_X7_61 : FP RX7 61 7 8 (.object "java/util/ArrayList") true := ⟨RX7, TX7, 11, tyX7, rfl, by decide, ui_X7, TB_of 218 rfl rfl, tyX7_ok, nmX7, rfl, by decide +kernel, fun _ => rfl⟩
set_option maxRecDepth 20000 in
theorem fl_X7_65 : FL RX7 65 7 9 := ⟨RX7, TX7, 11, rfl, by decide, ui_X7, TB_of 219 rfl rfl⟩
set_option maxRecDepth 20000 in
theorem fp_X7_65 : FP RX7 65 7 9 (.int) false := ⟨RX7, TX7, 11, tyX7, rfl, by decide, ui_X7, TB_of 219 rfl rfl, tyX7_ok, nmX7, rfl, by decide +kernel, fun _ => rfl⟩
set_option maxRecDepth 20000 in
theorem fl_X7_69 : FL RX7 69 7 10 := ⟨RX7, TX7, 11, rfl, by decide, ui_X7, TB_of 220 rfl rfl⟩
set_option maxRecDepth 20000 in
theorem fp_X7_69 : FP RX7 69 7 10 (.int) false := ⟨RX7, TX7, 11, tyX7, rfl, by decide, ui_X7, TB_of 220 rfl rfl, tyX7_ok, nmX7, rfl, by decide +kernel, fun _ => rfl⟩
set_option maxRecDepth 20000 in
theorem fl_X6_7 : FL RX6 7 6 0 := ⟨RX6, TX6, 4, rfl, by decide, ui_X6, TB_of 472 rfl rfl⟩
set_option maxRecDepth 20000 in
theorem fp_X6_7 : FP RX6 7 6 0 (.array .int) true := ⟨RX6, TX6, 4, tyX6, rfl, by decide, ui_X6, TB_of 472 rfl rfl, tyX6_ok, nmX6, rfl, by decide +kernel, fun _ => rfl⟩
set_option maxRecDepth 20000 in
theorem fl_X6_13 : FL RX6 13 6 1 := ⟨RX6, TX6, 4, rfl, by decide, ui_X6, TB_of 474 rfl rfl⟩
set_option maxRecDepth 20000 in
theorem fp_X6_13 : FP RX6 13 6 1 (.array .int) true := ⟨RX6, TX6, 4, tyX6, rfl, by decide, ui_X6, TB_of 474 rfl rfl, tyX6_ok, nmX6, rfl, by decide +kernel, fun _ => rfl⟩
set_option maxRecDepth 20000 in
theorem fl_X6_16 : FL RX6 16 6 2 := ⟨RX6, TX6, 4, rfl, by decide, ui_X6, TB_of 476 rfl rfl⟩
set_option maxRecDepth 20000 in
theorem fp_X6_16 : FP RX6 16 6 2 (.int) true := ⟨RX6, TX6, 4, tyX6, rfl, by decide, ui_X6, TB_of 476 rfl rfl, tyX6_ok, nmX6, rfl, by decide +kernel, fun _ => rfl⟩
set_option maxRecDepth 20000 in
theorem fl_X6_20 : FL RX6 20 6 3 := ⟨RX6, TX6, 4, rfl, by decide, ui_X6, TB_of 478 rfl rfl⟩
set_option maxRecDepth 20000 in
theorem fp_X6_20 : FP RX6 20 6 3 (.boolean) false := ⟨RX6, TX6, 4, tyX6, rfl, by decide, ui_X6, TB_of 478 rfl rfl, tyX6_ok, nmX6, rfl, by decide +kernel, fun _ => rfl⟩
set_option maxRecDepth 20000 in
theorem fl_X8_71 : FL RX8 71 8 0 := ⟨RX8, TX8, 33, rfl, by decide, ui_X8, TB_of 730 rfl rfl⟩
set_option maxRecDepth 20000 in
theorem fp_X8_71 : FP RX8 71 8 0 (.int) false := ⟨RX8, TX8, 33, tyX8, rfl, by decide, ui_X8, TB_of 730 rfl rfl, tyX8_ok, nmX8, rfl, by decide +kernel, fun _ => rfl⟩
set_option maxRecDepth 20000 in
theorem fl_X8_9 : FL RX8 9 8 1 := ⟨RX8, TX8, 33, rfl, by decide, ui_X8, TB_of 731 rfl rfl⟩
set_option maxRecDepth 20000 in
theorem fp_X8_9 : FP RX8 9 8 1 (.array .int) true := ⟨RX8, TX8, 33, tyX8, rfl, by decide, ui_X8, TB_of 731 rfl rfl, tyX8_ok, nmX8, rfl, by decide +kernel, fun _ => rfl⟩
set_option maxRecDepth 20000 in
theorem fl_X8_13 : FL RX8 13 8 2 := ⟨RX8, TX8, 33, rfl, by decide, ui_X8, TB_of 732 rfl rfl⟩
set_option maxRecDepth 20000 in
theorem fp_X8_13 : FP RX8 13 8 2 (.array .int) true := ⟨RX8, TX8, 33, tyX8, rfl, by decide, ui_X8, TB_of 732 rfl rfl, tyX8_ok, nmX8, rfl, by decide +kernel, fun _ => rfl⟩
set_option maxRecDepth 20000 in
theorem fl_X8_16 : FL RX8 16 8 3 := ⟨RX8, TX8, 33, rfl, by decide, ui_X8, TB_of 733 rfl rfl⟩
set_option maxRecDepth 20000 in
theorem fp_X8_16 : FP RX8 16 8 3 (.array .int) true := ⟨RX8, TX8, 33, tyX8, rfl, by decide, ui_X8, TB_of 733 rfl rfl, tyX8_ok, nmX8, rfl, by decide +kernel, fun _ => rfl⟩
set_option maxRecDepth 20000 in
theorem fl_X8_19 : FL RX8 19 8 4 := ⟨RX8, TX8, 33, rfl, by decide, ui_X8, TB_of 734 rfl rfl⟩
set_option maxRecDepth 20000 in
theorem fp_X8_19 : FP RX8 19 8 4 (.array .int) true := ⟨RX8, TX8, 33, tyX8, rfl, by decide, ui_X8, TB_of 734 rfl rfl, tyX8_ok, nmX8, rfl, by decide +kernel, fun _ => rfl⟩
set_option maxRecDepth 20000 in
theorem fl_X8_22 : FL RX8 22 8 5 := ⟨RX8, TX8, 33, rfl, by decide, ui_X8, TB_of 735 rfl rfl⟩
set_option maxRecDepth 20000 in
theorem fp_X8_22 : FP RX8 22 8 5 (.array .int) true := ⟨RX8, TX8, 33, tyX8, rfl, by decide, ui_X8, TB_of 735 rfl rfl, tyX8_ok, nmX8, rfl, by decide +kernel, fun _ => rfl⟩
set_option maxRecDepth 20000 in
theorem fl_X8_25 : FL RX8 25 8 6 := ⟨RX8, TX8, 33, rfl, by decide, ui_X8, TB_of 736 rfl rfl⟩
set_option maxRecDepth 20000 in
theorem fp_X8_25 : FP RX8 25 8 6 (.array .int) true := ⟨RX8, TX8, 33, tyX8, rfl, by decide, ui_X8, TB_of 736 rfl rfl, tyX8_ok, nmX8, rfl, by decide +kernel, fun _ => rfl⟩
set_option maxRecDepth 20000 in
theorem fl_X8_28 : FL RX8 28 8 7 := ⟨RX8, TX8, 33, rfl, by decide, ui_X8, TB_of 737 rfl rfl⟩
set_option maxRecDepth 20000 in
theorem fp_X8_28 : FP RX8 28 8 7 (.array .int) true := ⟨RX8, TX8, 33, tyX8, rfl, by decide, ui_X8, TB_of 737 rfl rfl, tyX8_ok, nmX8, rfl, by decide +kernel, fun _ => rfl⟩
set_option maxRecDepth 20000 in
theorem fl_X8_31 : FL RX8 31 8 8 := ⟨RX8, TX8, 33, rfl, by decide, ui_X8, TB_of 738 rfl rfl⟩
set_option maxRecDepth 20000 in
theorem fp_X8_31 : FP RX8 31 8 8 (.array .int) true := ⟨RX8, TX8, 33, tyX8, rfl, by decide, ui_X8, TB_of 738 rfl rfl, tyX8_ok, nmX8, rfl, by decide +kernel, fun _ => rfl⟩
set_option maxRecDepth 20000 in
theorem fl_X8_34 : FL RX8 34 8 9 := ⟨RX8, TX8, 33, rfl, by decide, ui_X8, TB_of 739 rfl rfl⟩
set_option maxRecDepth 20000 in
theorem fp_X8_34 : FP RX8 34 8 9 (.array .int) true := ⟨RX8, TX8, 33, tyX8, rfl, by decide, ui_X8, TB_of 739 rfl rfl, tyX8_ok, nmX8, rfl, by decide +kernel, fun _ => rfl⟩
set_option maxRecDepth 20000 in
theorem fl_X8_37 : FL RX8 37 8 10 := ⟨RX8, TX8, 33, rfl, by decide, ui_X8, TB_of 740 rfl rfl⟩
set_option maxRecDepth 20000 in
theorem fp_X8_37 : FP RX8 37 8 10 (.array .int) true := ⟨RX8, TX8, 33, tyX8, rfl, by decide, ui_X8, TB_of 740 rfl rfl, tyX8_ok, nmX8, rfl, by decide +kernel, fun _ => rfl⟩
set_option maxRecDepth 20000 in
theorem fl_X8_40 : FL RX8 40 8 11 := ⟨RX8, TX8, 33, rfl, by decide, ui_X8, TB_of 741 rfl rfl⟩
set_option maxRecDepth 20000 in
theorem fp_X8_40 : FP RX8 40 8 11 (.array .int) true := ⟨RX8, TX8, 33, tyX8, rfl, by decide, ui_X8, TB_of 741 rfl rfl, tyX8_ok, nmX8, rfl, by decide +kernel, fun _ => rfl⟩
set_option maxRecDepth 20000 in
theorem fl_X8_43 : FL RX8 43 8 12 := ⟨RX8, TX8, 33, rfl, by decide, ui_X8, TB_of 742 rfl rfl⟩
set_option maxRecDepth 20000 in
theorem fp_X8_43 : FP RX8 43 8 12 (.array .int) true := ⟨RX8, TX8, 33, tyX8, rfl, by decide, ui_X8, TB_of 742 rfl rfl, tyX8_ok, nmX8, rfl, by decide +kernel, fun _ => rfl⟩
set_option maxRecDepth 20000 in
theorem fl_X8_46 : FL RX8 46 8 13 := ⟨RX8, TX8, 33, rfl, by decide, ui_X8, TB_of 743 rfl rfl⟩
set_option maxRecDepth 20000 in
theorem fp_X8_46 : FP RX8 46 8 13 (.array .int) true := ⟨RX8, TX8, 33, tyX8, rfl, by decide, ui_X8, TB_of 743 rfl rfl, tyX8_ok, nmX8, rfl, by decide +kernel, fun _ => rfl⟩
set_option maxRecDepth 20000 in
theorem fl_X8_49 : FL RX8 49 8 14 := ⟨RX8, TX8, 33, rfl, by decide, ui_X8, TB_of 744 rfl rfl⟩
set_option maxRecDepth 20000 in
theorem fp_X8_49 : FP RX8 49 8 14 (.array .int) true := ⟨RX8, TX8, 33, tyX8, rfl, by decide, ui_X8, TB_of 744 rfl rfl, tyX8_ok, nmX8, rfl, by decide +kernel, fun _ => rfl⟩
set_option maxRecDepth 20000 in
theorem fl_X8_52 : FL RX8 52 8 15 := ⟨RX8, TX8, 33, rfl, by decide, ui_X8, TB_of 745 rfl rfl⟩
set_option maxRecDepth 20000 in
theorem fp_X8_52 : FP RX8 52 8 15 (.array .int) true := ⟨RX8, TX8, 33, tyX8, rfl, by decide, ui_X8, TB_of 745 rfl rfl, tyX8_ok, nmX8, rfl, by decide +kernel, fun _ => rfl⟩
set_option maxRecDepth 20000 in
theorem fl_X8_55 : FL RX8 55 8 16 := ⟨RX8, TX8, 33, rfl, by decide, ui_X8, TB_of 746 rfl rfl⟩
set_option maxRecDepth 20000 in
theorem fp_X8_55 : FP RX8 55 8 16 (.array .int) true := ⟨RX8, TX8, 33, tyX8, rfl, by decide, ui_X8, TB_of 746 rfl rfl, tyX8_ok, nmX8, rfl, by decide +kernel, fun _ => rfl⟩
set_option maxRecDepth 20000 in
theorem fl_X8_58 : FL RX8 58 8 17 := ⟨RX8, TX8, 33, rfl, by decide, ui_X8, TB_of 747 rfl rfl⟩
set_option maxRecDepth 20000 in
theorem fp_X8_58 : FP RX8 58 8 17 (.array .int) true := ⟨RX8, TX8, 33, tyX8, rfl, by decide, ui_X8, TB_of 747 rfl rfl, tyX8_ok, nmX8, rfl, by decide +kernel, fun _ => rfl⟩
set_option maxRecDepth 20000 in
theorem fl_X8_61 : FL RX8 61 8 18 := ⟨RX8, TX8, 33, rfl, by decide, ui_X8, TB_of 748 rfl rfl⟩
set_option maxRecDepth 20000 in
theorem fp_X8_61 : FP RX8 61 8 18 (.array .boolean) true := ⟨RX8, TX8, 33, tyX8, rfl, by decide, ui_X8, TB_of 748 rfl rfl, tyX8_ok, nmX8, rfl, by decide +kernel, fun _ => rfl⟩
set_option maxRecDepth 20000 in
theorem fl_X8_75 : FL RX8 75 8 19 := ⟨RX8, TX8, 33, rfl, by decide, ui_X8, TB_of 749 rfl rfl⟩
set_option maxRecDepth 20000 in
theorem fp_X8_75 : FP RX8 75 8 19 (.int) false := ⟨RX8, TX8, 33, tyX8, rfl, by decide, ui_X8, TB_of 749 rfl rfl, tyX8_ok, nmX8, rfl, by decide +kernel, fun _ => rfl⟩
set_option maxRecDepth 20000 in
theorem fl_X8_97 : FL RX8 97 8 20 := ⟨RX8, TX8, 33, rfl, by decide, ui_X8, TB_of 750 rfl rfl⟩
set_option maxRecDepth 20000 in
theorem fp_X8_97 : FP RX8 97 8 20 (.int) false := ⟨RX8, TX8, 33, tyX8, rfl, by decide, ui_X8, TB_of 750 rfl rfl, tyX8_ok, nmX8, rfl, by decide +kernel, fun _ => rfl⟩
set_option maxRecDepth 20000 in
theorem fl_X8_100 : FL RX8 100 8 21 := ⟨RX8, TX8, 33, rfl, by decide, ui_X8, TB_of 751 rfl rfl⟩
set_option maxRecDepth 20000 in
theorem fp_X8_100 : FP RX8 100 8 21 (.int) false := ⟨RX8, TX8, 33, tyX8, rfl, by decide, ui_X8, TB_of 751 rfl rfl, tyX8_ok, nmX8, rfl, by decide +kernel, fun _ => rfl⟩
set_option maxRecDepth 20000 in
theorem fl_X8_155 : FL RX8 155 8 22 := ⟨RX8, TX8, 33, rfl, by decide, ui_X8, TB_of 752 rfl rfl⟩
set_option maxRecDepth 20000 in
theorem fp_X8_155 : FP RX8 155 8 22 (.int) false := ⟨RX8, TX8, 33, tyX8, rfl, by decide, ui_X8, TB_of 752 rfl rfl, tyX8_ok, nmX8, rfl, by decide +kernel, fun _ => rfl⟩
set_option maxRecDepth 20000 in
theorem fl_X8_149 : FL RX8 149 8 23 := ⟨RX8, TX8, 33, rfl, by decide, ui_X8, TB_of 753 rfl rfl⟩
set_option maxRecDepth 20000 in
theorem fp_X8_149 : FP RX8 149 8 23 (.int) false := ⟨RX8, TX8, 33, tyX8, rfl, by decide, ui_X8, TB_of 753 rfl rfl, tyX8_ok, nmX8, rfl, by decide +kernel, fun _ => rfl⟩
set_option maxRecDepth 20000 in
theorem fl_X8_90 : FL RX8 90 8 24 := ⟨RX8, TX8, 33, rfl, by decide, ui_X8, TB_of 754 rfl rfl⟩
set_option maxRecDepth 20000 in
theorem fp_X8_90 : FP RX8 90 8 24 (.int) false := ⟨RX8, TX8, 33, tyX8, rfl, by decide, ui_X8, TB_of 754 rfl rfl, tyX8_ok, nmX8, rfl, by decide +kernel, fun _ => rfl⟩
set_option maxRecDepth 20000 in
theorem fl_X8_78 : FL RX8 78 8 25 := ⟨RX8, TX8, 33, rfl, by decide, ui_X8, TB_of 755 rfl rfl⟩
set_option maxRecDepth 20000 in
theorem fp_X8_78 : FP RX8 78 8 25 (.boolean) false := ⟨RX8, TX8, 33, tyX8, rfl, by decide, ui_X8, TB_of 755 rfl rfl, tyX8_ok, nmX8, rfl, by decide +kernel, fun _ => rfl⟩
set_option maxRecDepth 20000 in
theorem fl_X8_130 : FL RX8 130 8 26 := ⟨RX8, TX8, 33, rfl, by decide, ui_X8, TB_of 756 rfl rfl⟩
set_option maxRecDepth 20000 in
theorem fp_X8_130 : FP RX8 130 8 26 (.int) false := ⟨RX8, TX8, 33, tyX8, rfl, by decide, ui_X8, TB_of 756 rfl rfl, tyX8_ok, nmX8, rfl, by decide +kernel, fun _ => rfl⟩
set_option maxRecDepth 20000 in
theorem fl_X8_133 : FL RX8 133 8 27 := ⟨RX8, TX8, 33, rfl, by decide, ui_X8, TB_of 757 rfl rfl⟩
set_option maxRecDepth 20000 in
theorem fp_X8_133 : FP RX8 133 8 27 (.int) false := ⟨RX8, TX8, 33, tyX8, rfl, by decide, ui_X8, TB_of 757 rfl rfl, tyX8_ok, nmX8, rfl, by decide +kernel, fun _ => rfl⟩
set_option maxRecDepth 20000 in
theorem fl_X8_65 : FL RX8 65 8 28 := ⟨RX8, TX8, 33, rfl, by decide, ui_X8, TB_of 758 rfl rfl⟩
set_option maxRecDepth 20000 in
theorem fp_X8_65 : FP RX8 65 8 28 (.array .boolean) true := ⟨RX8, TX8, 33, tyX8, rfl, by decide, ui_X8, TB_of 758 rfl rfl, tyX8_ok, nmX8, rfl, by decide +kernel, fun _ => rfl⟩
set_option maxRecDepth 20000 in
theorem fl_X8_68 : FL RX8 68 8 29 := ⟨RX8, TX8, 33, rfl, by decide, ui_X8, TB_of 759 rfl rfl⟩
set_option maxRecDepth 20000 in
theorem fp_X8_68 : FP RX8 68 8 29 (.array .int) true := ⟨RX8, TX8, 33, tyX8, rfl, by decide, ui_X8, TB_of 759 rfl rfl, tyX8_ok, nmX8, rfl, by decide +kernel, fun _ => rfl⟩
set_option maxRecDepth 20000 in
theorem fl_X8_139 : FL RX8 139 8 30 := ⟨RX8, TX8, 33, rfl, by decide, ui_X8, TB_of 760 rfl rfl⟩
set_option maxRecDepth 20000 in
theorem fp_X8_139 : FP RX8 139 8 30 (.int) false := ⟨RX8, TX8, 33, tyX8, rfl, by decide, ui_X8, TB_of 760 rfl rfl, tyX8_ok, nmX8, rfl, by decide +kernel, fun _ => rfl⟩
set_option maxRecDepth 20000 in
theorem fl_X8_179 : FL RX8 179 8 31 := ⟨RX8, TX8, 33, rfl, by decide, ui_X8, TB_of 761 rfl rfl⟩
set_option maxRecDepth 20000 in
theorem fp_X8_179 : FP RX8 179 8 31 (.int) false := ⟨RX8, TX8, 33, tyX8, rfl, by decide, ui_X8, TB_of 761 rfl rfl, tyX8_ok, nmX8, rfl, by decide +kernel, fun _ => rfl⟩
set_option maxRecDepth 20000 in
theorem fl_X8_166 : FL RX8 166 8 32 := ⟨RX8, TX8, 33, rfl, by decide, ui_X8, TB_of 762 rfl rfl⟩
set_option maxRecDepth 20000 in
theorem fp_X8_166 : FP RX8 166 8 32 (.int) false := ⟨RX8, TX8, 33, tyX8, rfl, by decide, ui_X8, TB_of 762 rfl rfl, tyX8_ok, nmX8, rfl, by decide +kernel, fun _ => rfl⟩
set_option maxRecDepth 20000 in
theorem wd_objI : Cond.instanceMethod objectInit ∈ TB := TB_of 74 rfl rfl
set_option maxRecDepth 20000 in
theorem wd_objC : Cond.code objectInit ⟨#[0xb1]⟩ 1 none ∈ TB := TB_of 75 (by decide +kernel) rfl
set_option maxRecDepth 20000 in
theorem wd_ii_L : Cond.initialized RL ∈ TB := TB_of 44 rfl rfl
set_option maxRecDepth 20000 in
theorem wd_ii_X7 : Cond.initialized RX7 ∈ TB := TB_of 45 rfl rfl
set_option maxRecDepth 20000 in
theorem wd_ii_X2 : Cond.initialized RX2 ∈ TB := TB_of 46 rfl rfl
set_option maxRecDepth 20000 in
theorem wd_ii_J7 : Cond.initialized RJ7 ∈ TB := TB_of 47 rfl rfl
set_option maxRecDepth 20000 in
theorem wd_ii_X1 : Cond.initialized RX1 ∈ TB := TB_of 48 rfl rfl
set_option maxRecDepth 20000 in
theorem wd_ii_X5 : Cond.initialized RX5 ∈ TB := TB_of 49 rfl rfl
set_option maxRecDepth 20000 in
theorem wd_ii_X4 : Cond.initialized RX4 ∈ TB := TB_of 50 rfl rfl
set_option maxRecDepth 20000 in
theorem wd_ii_X0 : Cond.initialized RX0 ∈ TB := TB_of 51 rfl rfl
set_option maxRecDepth 20000 in
theorem wd_ii_X3 : Cond.initialized RX3 ∈ TB := TB_of 52 rfl rfl
set_option maxRecDepth 20000 in
theorem wd_ii_Jxa1e45 : Cond.initialized RJxa1e45 ∈ TB := TB_of 53 rfl rfl
set_option maxRecDepth 20000 in
theorem wd_ii_Jxc12de : Cond.initialized RJxc12de ∈ TB := TB_of 54 rfl rfl
set_option maxRecDepth 20000 in
theorem wd_ii_Jx4a65c : Cond.initialized RJx4a65c ∈ TB := TB_of 55 rfl rfl
set_option maxRecDepth 20000 in
theorem wd_ii_X8 : Cond.initialized RX8 ∈ TB := TB_of 56 rfl rfl
set_option maxRecDepth 20000 in
theorem wd_ii_J6 : Cond.initialized RJ6 ∈ TB := TB_of 57 rfl rfl
set_option maxRecDepth 20000 in
theorem wd_ii_J9 : Cond.initialized RJ9 ∈ TB := TB_of 58 rfl rfl
set_option maxRecDepth 20000 in
theorem wd_ii_J10 : Cond.initialized RJ10 ∈ TB := TB_of 59 rfl rfl
set_option maxRecDepth 20000 in
theorem wd_ii_X6 : Cond.initialized RX6 ∈ TB := TB_of 60 rfl rfl
set_option maxRecDepth 20000 in
theorem wd_ii_J8 : Cond.initialized RJ8 ∈ TB := TB_of 61 rfl rfl
set_option maxRecDepth 20000 in
theorem wd_ii_J15 : Cond.initialized RJ15 ∈ TB := TB_of 62 rfl rfl
set_option maxRecDepth 20000 in
theorem wd_ii_J3 : Cond.initialized RJ3 ∈ TB := TB_of 63 rfl rfl
set_option maxRecDepth 20000 in
theorem wd_cl_L_8 : Cond.classLink RL 8 RX7 ∈ TB := TB_of 68 rfl rfl
set_option maxRecDepth 20000 in
theorem wd_in_X7 : Cond.instantiable RX7 11 ∈ TB := TB_of 69 rfl rfl
set_option maxRecDepth 20000 in
theorem wd_ol_X7 : Cond.methodLink RX7 1 objectInit ∈ TB := TB_of 73 rfl rfl
set_option maxRecDepth 20000 in
theorem wd_cl_X7_13 : Cond.classLink RX7 13 RX2 ∈ TB := TB_of 76 rfl rfl
set_option maxRecDepth 20000 in
theorem wd_in_X2 : Cond.instantiable RX2 2 ∈ TB := TB_of 77 rfl rfl
set_option maxRecDepth 20000 in
theorem wd_ol_X2 : Cond.methodLink RX2 3 objectInit ∈ TB := TB_of 81 rfl rfl
set_option maxRecDepth 20000 in
theorem wd_ar_int : Cond.arrayClass .int ∈ TB := TB_of 92 rfl rfl
set_option maxRecDepth 20000 in
theorem wd_cl_X7_23 : Cond.classLink RX7 23 RX1 ∈ TB := TB_of 93 rfl rfl
set_option maxRecDepth 20000 in
theorem wd_in_X1 : Cond.instantiable RX1 8 ∈ TB := TB_of 94 rfl rfl
set_option maxRecDepth 20000 in
theorem wd_ol_X1 : Cond.methodLink RX1 3 objectInit ∈ TB := TB_of 98 rfl rfl
set_option maxRecDepth 20000 in
theorem wd_cl_X7_30 : Cond.classLink RX7 30 RX5 ∈ TB := TB_of 125 rfl rfl
set_option maxRecDepth 20000 in
theorem wd_in_X5 : Cond.instantiable RX5 2 ∈ TB := TB_of 126 rfl rfl
set_option maxRecDepth 20000 in
theorem wd_ol_X5 : Cond.methodLink RX5 3 objectInit ∈ TB := TB_of 130 rfl rfl
set_option maxRecDepth 20000 in
theorem wd_cl_X7_37 : Cond.classLink RX7 37 RX4 ∈ TB := TB_of 139 rfl rfl
set_option maxRecDepth 20000 in
theorem wd_in_X4 : Cond.instantiable RX4 2 ∈ TB := TB_of 140 rfl rfl
set_option maxRecDepth 20000 in
theorem wd_ol_X4 : Cond.methodLink RX4 3 objectInit ∈ TB := TB_of 144 rfl rfl
set_option maxRecDepth 20000 in
theorem wd_cl_X7_44 : Cond.classLink RX7 44 RX0 ∈ TB := TB_of 152 rfl rfl
set_option maxRecDepth 20000 in
theorem wd_in_X0 : Cond.instantiable RX0 2 ∈ TB := TB_of 153 rfl rfl
set_option maxRecDepth 20000 in
theorem wd_ol_X0 : Cond.methodLink RX0 3 objectInit ∈ TB := TB_of 157 rfl rfl
set_option maxRecDepth 20000 in
theorem wd_cl_X7_51 : Cond.classLink RX7 51 RX3 ∈ TB := TB_of 167 rfl rfl
set_option maxRecDepth 20000 in
theorem wd_in_X3 : Cond.instantiable RX3 3 ∈ TB := TB_of 168 rfl rfl
set_option maxRecDepth 20000 in
theorem wd_ol_X3 : Cond.methodLink RX3 3 objectInit ∈ TB := TB_of 172 rfl rfl
set_option maxRecDepth 20000 in
theorem wd_cl_X7_58 : Cond.classLink RX7 58 RJx4a65c ∈ TB := TB_of 184 rfl rfl
set_option maxRecDepth 20000 in
theorem wd_in_Jx4a65c : Cond.instantiable RJx4a65c 3 ∈ TB := TB_of 185 rfl rfl
set_option maxRecDepth 20000 in
theorem wd_ol_Jxa1e45 : Cond.methodLink RJxa1e45 1 objectInit ∈ TB := TB_of 195 rfl rfl
set_option maxRecDepth 20000 in
theorem wd_co_J6_265 : Cond.constant RJ6 265 1431655765 ∈ TB := TB_of 395 rfl rfl
set_option maxRecDepth 20000 in
theorem wd_co_J6_266 : Cond.constant RJ6 266 858993459 ∈ TB := TB_of 396 rfl rfl
set_option maxRecDepth 20000 in
theorem wd_co_J6_267 : Cond.constant RJ6 267 252645135 ∈ TB := TB_of 397 rfl rfl
set_option maxRecDepth 20000 in
theorem wd_cl_X7_169 : Cond.classLink RX7 169 RX6 ∈ TB := TB_of 466 rfl rfl
set_option maxRecDepth 20000 in
theorem wd_in_X6 : Cond.instantiable RX6 4 ∈ TB := TB_of 467 rfl rfl
set_option maxRecDepth 20000 in
theorem wd_ol_X6 : Cond.methodLink RX6 1 objectInit ∈ TB := TB_of 471 rfl rfl
set_option maxRecDepth 20000 in
theorem wd_co_J8_200 : Cond.constant RJ8 200 2147483639 ∈ TB := TB_of 511 rfl rfl
set_option maxRecDepth 20000 in
theorem wd_cl_L_16 : Cond.classLink RL 16 RX8 ∈ TB := TB_of 724 rfl rfl
set_option maxRecDepth 20000 in
theorem wd_in_X8 : Cond.instantiable RX8 33 ∈ TB := TB_of 725 rfl rfl
set_option maxRecDepth 20000 in
theorem wd_ol_X8 : Cond.methodLink RX8 3 objectInit ∈ TB := TB_of 729 rfl rfl
set_option maxRecDepth 20000 in
theorem wd_mmaxS : Cond.static Lib.Math.max.name ∈ TB := TB_of 509 rfl rfl
set_option maxRecDepth 20000 in
theorem wd_mmaxC : Cond.code Lib.Math.max.name Lib.Math.max.code 2 (some .int) ∈ TB := TB_of 510 (by decide +kernel) rfl
set_option maxRecDepth 20000 in
theorem wd_mmaxL_J8_194 : Cond.methodLink RJ8 194 Lib.Math.max.name ∈ TB := TB_of 508 rfl rfl
set_option maxRecDepth 20000 in
theorem wd_mmaxL_Jx4a65c_79 : Cond.methodLink RJx4a65c 79 Lib.Math.max.name ∈ TB := TB_of 539 rfl rfl
set_option maxRecDepth 20000 in
theorem wd_mmaxL_X0_32 : Cond.methodLink RX0 32 Lib.Math.max.name ∈ TB := TB_of 622 rfl rfl
set_option maxRecDepth 20000 in
theorem wd_mmaxL_X8_189 : Cond.methodLink RX8 189 Lib.Math.max.name ∈ TB := TB_of 989 rfl rfl
set_option maxRecDepth 20000 in
theorem wd_mminS : Cond.static Lib.Math.min.name ∈ TB := TB_of 461 rfl rfl
set_option maxRecDepth 20000 in
theorem wd_mminC : Cond.code Lib.Math.min.name Lib.Math.min.code 2 (some .int) ∈ TB := TB_of 462 (by decide +kernel) rfl
set_option maxRecDepth 20000 in
theorem wd_mminL_J7_304 : Cond.methodLink RJ7 304 Lib.Math.min.name ∈ TB := TB_of 460 rfl rfl
set_option maxRecDepth 20000 in
theorem wd_mminL_X0_38 : Cond.methodLink RX0 38 Lib.Math.min.name ∈ TB := TB_of 623 rfl rfl
set_option maxRecDepth 20000 in
theorem wd_mminL_X8_174 : Cond.methodLink RX8 174 Lib.Math.min.name ∈ TB := TB_of 988 rfl rfl
set_option maxRecDepth 20000 in
theorem wd_mathI : Cond.initialized "java/lang/Math" ∈ TB := TB_of 58 rfl rfl
