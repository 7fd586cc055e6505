theorem ck_ws {C : String} {T : u_T} {N : Nat} (ps : List Nat) (h : (List.range N).all (fun k => decide (lw_tbl[ps.getD k 0]? = some (u_lay C T k)) && goodWord (u_lay C T k)) = true) : ∀ w ∈ u_ws C T N, w ∈ uw := by
  intro w hw
  obtain ⟨k, hk, rfl⟩ := List.mem_map.mp hw
  have h1 := List.all_eq_true.mp h k hk
  simp only [Bool.and_eq_true, decide_eq_true_eq] at h1
  exact uw_at _ h1.1 h1.2
theorem ck0 : CK 0 RX0 TX0 6 tyX0 := ⟨rfl, ck_ws [506, 508, 510, 512, 514, 516] (by decide +kernel), tyX0_ok, nmX0⟩
theorem ck1 : CK 1 RX1 TX1 3 tyX1 := ⟨rfl, ck_ws [638, 640, 642] (by decide +kernel), tyX1_ok, nmX1⟩
theorem ck2 : CK 2 RX2 TX2 3 tyX2 := ⟨rfl, ck_ws [465, 467, 469] (by decide +kernel), tyX2_ok, nmX2⟩
theorem ck3 : CK 3 RX3 TX3 4 tyX3 := ⟨rfl, ck_ws [891, 893, 895, 897] (by decide +kernel), tyX3_ok, nmX3⟩
theorem ck4 : CK 4 RX4 TX4 5 tyX4 := ⟨rfl, ck_ws [105, 107, 109, 111, 113] (by decide +kernel), tyX4_ok, nmX4⟩
theorem ck5 : CK 5 RX5 TX5 5 tyX5 := ⟨rfl, ck_ws [135, 137, 139, 141, 143] (by decide +kernel), tyX5_ok, nmX5⟩
theorem ck6 : CK 6 RX6 TX6 11 tyX6 := ⟨rfl, ck_ws [185, 187, 189, 191, 193, 195, 197, 199, 201, 203, 205] (by decide +kernel), tyX6_ok, nmX6⟩
theorem ck7 : CK 7 RX7 TX7 35 tyX7 := ⟨rfl, ck_ws [1109, 1111, 1113, 1115, 1117, 1119, 1121, 1123, 1125, 1127, 1129, 1131, 1133, 1135, 1137, 1139, 1141, 1143, 1145, 1147, 1149, 1151, 1153, 1155, 1157, 1159, 1161, 1163, 1165, 1167, 1169, 1171, 1173, 1175, 1177] (by decide +kernel), tyX7_ok, nmX7⟩
theorem ck8 : CK 8 RJx4a65c TJx4a65c 3 tyJx4a65c := ⟨rfl, ck_ws [171, 167, 169] (by decide +kernel), tyJx4a65c_ok, nmJx4a65c⟩
theorem fp_X6_10 : FL "ComplaintDesk" 10 6 0 (.object "ComplaintDesk$Tape") true := ⟨RX6, TX6, 11, tyX6, ck6, by decide, uw_at 174 (by decide +kernel) rfl, rfl, by decide +kernel, fun _ => rfl⟩
theorem fl_X6_10 : FR "ComplaintDesk" 10 6 0 := fp_X6_10.r
theorem fp_X6_19 : FL "ComplaintDesk" 19 6 1 (.object "ComplaintDesk$Words") true := ⟨RX6, TX6, 11, tyX6, ck6, by decide, uw_at 175 (by decide +kernel) rfl, rfl, by decide +kernel, fun _ => rfl⟩
theorem fl_X6_19 : FR "ComplaintDesk" 19 6 1 := fp_X6_19.r
theorem fp_X6_23 : FL "ComplaintDesk" 23 6 2 .int false := ⟨RX6, TX6, 11, tyX6, ck6, by decide, uw_at 176 (by decide +kernel) rfl, rfl, by decide +kernel, fun h => by cases h⟩
theorem fl_X6_23 : FR "ComplaintDesk" 23 6 2 := fp_X6_23.r
theorem fp_X6_27 : FL "ComplaintDesk" 27 6 3 .int false := ⟨RX6, TX6, 11, tyX6, ck6, by decide, uw_at 177 (by decide +kernel) rfl, rfl, by decide +kernel, fun h => by cases h⟩
theorem fl_X6_27 : FR "ComplaintDesk" 27 6 3 := fp_X6_27.r
theorem fp_X6_33 : FL "ComplaintDesk" 33 6 4 (.object "java/util/ArrayList") true := ⟨RX6, TX6, 11, tyX6, ck6, by decide, uw_at 178 (by decide +kernel) rfl, rfl, by decide +kernel, fun _ => rfl⟩
theorem fl_X6_33 : FR "ComplaintDesk" 33 6 4 := fp_X6_33.r
theorem fp_X6_37 : FL "ComplaintDesk" 37 6 5 (.object "java/util/ArrayList") true := ⟨RX6, TX6, 11, tyX6, ck6, by decide, uw_at 179 (by decide +kernel) rfl, rfl, by decide +kernel, fun _ => rfl⟩
theorem fl_X6_37 : FR "ComplaintDesk" 37 6 5 := fp_X6_37.r
theorem fp_X6_40 : FL "ComplaintDesk" 40 6 6 (.array .int) true := ⟨RX6, TX6, 11, tyX6, ck6, by decide, uw_at 180 (by decide +kernel) rfl, rfl, by decide +kernel, fun _ => rfl⟩
theorem fl_X6_40 : FR "ComplaintDesk" 40 6 6 := fp_X6_40.r
theorem fp_X6_44 : FL "ComplaintDesk" 44 6 7 (.array .int) true := ⟨RX6, TX6, 11, tyX6, ck6, by decide, uw_at 181 (by decide +kernel) rfl, rfl, by decide +kernel, fun _ => rfl⟩
theorem fl_X6_44 : FR "ComplaintDesk" 44 6 7 := fp_X6_44.r
theorem fp_X6_47 : FL "ComplaintDesk" 47 6 8 .int false := ⟨RX6, TX6, 11, tyX6, ck6, by decide, uw_at 182 (by decide +kernel) rfl, rfl, by decide +kernel, fun h => by cases h⟩
theorem fl_X6_47 : FR "ComplaintDesk" 47 6 8 := fp_X6_47.r
theorem fp_X6_50 : FL "ComplaintDesk" 50 6 9 (.array .int) true := ⟨RX6, TX6, 11, tyX6, ck6, by decide, uw_at 183 (by decide +kernel) rfl, rfl, by decide +kernel, fun _ => rfl⟩
theorem fl_X6_50 : FR "ComplaintDesk" 50 6 9 := fp_X6_50.r
theorem fp_X6_53 : FL "ComplaintDesk" 53 6 10 (.array .int) true := ⟨RX6, TX6, 11, tyX6, ck6, by decide, uw_at 184 (by decide +kernel) rfl, rfl, by decide +kernel, fun _ => rfl⟩
theorem fl_X6_53 : FR "ComplaintDesk" 53 6 10 := fp_X6_53.r
theorem fp_X6_64 : FL "ComplaintDesk" 64 4 1 .int false := ⟨RX4, TX4, 5, tyX4, ck4, by decide, uw_at 97 (by decide +kernel) rfl, rfl, by decide +kernel, fun h => by cases h⟩
theorem fl_X6_64 : FR "ComplaintDesk" 64 4 1 := fp_X6_64.r
theorem fp_X6_110 : FL "ComplaintDesk" 110 0 5 (.object "ComplaintDesk$Pattern") false := ⟨RX0, TX0, 6, tyX0, ck0, by decide, uw_at 505 (by decide +kernel) rfl, rfl, by decide +kernel, fun h => by cases h⟩
theorem fl_X6_110 : FR "ComplaintDesk" 110 0 5 := fp_X6_110.r
theorem fp_X6_132 : FL "ComplaintDesk" 132 5 3 .int false := ⟨RX5, TX5, 5, tyX5, ck5, by decide, uw_at 132 (by decide +kernel) rfl, rfl, by decide +kernel, fun h => by cases h⟩
theorem fl_X6_132 : FR "ComplaintDesk" 132 5 3 := fp_X6_132.r
theorem fl_X6_148 : FR "ComplaintDesk" 148 1 1 := ⟨RX1, TX1, 3, tyX1, ck1, by decide, uw_at 635 (by decide +kernel) rfl⟩
theorem fl_X6_155 : FR "ComplaintDesk" 155 1 2 := ⟨RX1, TX1, 3, tyX1, ck1, by decide, uw_at 637 (by decide +kernel) rfl⟩
theorem fp_X6_174 : FL "ComplaintDesk" 174 3 3 .int false := ⟨RX3, TX3, 4, tyX3, ck3, by decide, uw_at 890 (by decide +kernel) rfl, rfl, by decide +kernel, fun h => by cases h⟩
theorem fl_X6_174 : FR "ComplaintDesk" 174 3 3 := fp_X6_174.r
theorem fp_X6_177 : FL "ComplaintDesk" 177 3 1 (.object "ComplaintDesk$Cause") false := ⟨RX3, TX3, 4, tyX3, ck3, by decide, uw_at 886 (by decide +kernel) rfl, rfl, by decide +kernel, fun h => by cases h⟩
theorem fl_X6_177 : FR "ComplaintDesk" 177 3 1 := fp_X6_177.r
theorem fl_X6_181 : FR "ComplaintDesk" 181 0 0 := ⟨RX0, TX0, 6, tyX0, ck0, by decide, uw_at 495 (by decide +kernel) rfl⟩
theorem fp_X6_184 : FL "ComplaintDesk" 184 3 2 .int false := ⟨RX3, TX3, 4, tyX3, ck3, by decide, uw_at 888 (by decide +kernel) rfl, rfl, by decide +kernel, fun h => by cases h⟩
theorem fl_X6_184 : FR "ComplaintDesk" 184 3 2 := fp_X6_184.r
theorem fl_X6_187 : FR "ComplaintDesk" 187 1 0 := ⟨RX1, TX1, 3, tyX1, ck1, by decide, uw_at 633 (by decide +kernel) rfl⟩
theorem fl_X6_194 : FR "ComplaintDesk" 194 3 0 := ⟨RX3, TX3, 4, tyX3, ck3, by decide, uw_at 883 (by decide +kernel) rfl⟩
theorem fl_X6_261 : FR "ComplaintDesk" 261 0 1 := ⟨RX0, TX0, 6, tyX0, ck0, by decide, uw_at 497 (by decide +kernel) rfl⟩
theorem fp_X0_7 : FL "ComplaintDesk$Cause" 7 0 0 .int true := ⟨RX0, TX0, 6, tyX0, ck0, by decide, uw_at 493 (by decide +kernel) rfl, rfl, by decide +kernel, fun _ => rfl⟩
theorem fl_X0_7 : FR "ComplaintDesk$Cause" 7 0 0 := fp_X0_7.r
theorem fp_X0_13 : FL "ComplaintDesk$Cause" 13 0 1 (.object "ComplaintDesk$Cause") true := ⟨RX0, TX0, 6, tyX0, ck0, by decide, uw_at 496 (by decide +kernel) rfl, rfl, by decide +kernel, fun _ => rfl⟩
theorem fl_X0_13 : FR "ComplaintDesk$Cause" 13 0 1 := fp_X0_13.r
theorem fp_X0_17 : FL "ComplaintDesk$Cause" 17 0 2 .int true := ⟨RX0, TX0, 6, tyX0, ck0, by decide, uw_at 498 (by decide +kernel) rfl, rfl, by decide +kernel, fun _ => rfl⟩
theorem fl_X0_17 : FR "ComplaintDesk$Cause" 17 0 2 := fp_X0_17.r
theorem fp_X0_20 : FL "ComplaintDesk$Cause" 20 0 3 .int true := ⟨RX0, TX0, 6, tyX0, ck0, by decide, uw_at 500 (by decide +kernel) rfl, rfl, by decide +kernel, fun _ => rfl⟩
theorem fl_X0_20 : FR "ComplaintDesk$Cause" 20 0 3 := fp_X0_20.r
theorem fp_X0_23 : FL "ComplaintDesk$Cause" 23 0 4 .boolean true := ⟨RX0, TX0, 6, tyX0, ck0, by decide, uw_at 502 (by decide +kernel) rfl, rfl, by decide +kernel, fun _ => rfl⟩
theorem fl_X0_23 : FR "ComplaintDesk$Cause" 23 0 4 := fp_X0_23.r
theorem fp_X0_27 : FL "ComplaintDesk$Cause" 27 0 5 (.object "ComplaintDesk$Pattern") false := ⟨RX0, TX0, 6, tyX0, ck0, by decide, uw_at 504 (by decide +kernel) rfl, rfl, by decide +kernel, fun h => by cases h⟩
theorem fl_X0_27 : FR "ComplaintDesk$Cause" 27 0 5 := fp_X0_27.r
theorem fp_X1_12 : FL "ComplaintDesk$Letter" 12 1 2 (.object "java/util/ArrayList") true := ⟨RX1, TX1, 3, tyX1, ck1, by decide, uw_at 636 (by decide +kernel) rfl, rfl, by decide +kernel, fun _ => rfl⟩
theorem fl_X1_12 : FR "ComplaintDesk$Letter" 12 1 2 := fp_X1_12.r
theorem fp_X1_18 : FL "ComplaintDesk$Letter" 18 1 0 .int true := ⟨RX1, TX1, 3, tyX1, ck1, by decide, uw_at 632 (by decide +kernel) rfl, rfl, by decide +kernel, fun _ => rfl⟩
theorem fl_X1_18 : FR "ComplaintDesk$Letter" 18 1 0 := fp_X1_18.r
theorem fp_X1_22 : FL "ComplaintDesk$Letter" 22 1 1 .int true := ⟨RX1, TX1, 3, tyX1, ck1, by decide, uw_at 634 (by decide +kernel) rfl, rfl, by decide +kernel, fun _ => rfl⟩
theorem fl_X1_22 : FR "ComplaintDesk$Letter" 22 1 1 := fp_X1_22.r
theorem fp_X1_39 : FL "ComplaintDesk$Letter" 39 5 3 .int false := ⟨RX5, TX5, 5, tyX5, ck5, by decide, uw_at 131 (by decide +kernel) rfl, rfl, by decide +kernel, fun h => by cases h⟩
theorem fl_X1_39 : FR "ComplaintDesk$Letter" 39 5 3 := fp_X1_39.r
theorem fp_X1_42 : FL "ComplaintDesk$Letter" 42 4 3 .int false := ⟨RX4, TX4, 5, tyX4, ck4, by decide, uw_at 102 (by decide +kernel) rfl, rfl, by decide +kernel, fun h => by cases h⟩
theorem fl_X1_42 : FR "ComplaintDesk$Letter" 42 4 3 := fp_X1_42.r
theorem fp_X1_48 : FL "ComplaintDesk$Letter" 48 5 2 .int false := ⟨RX5, TX5, 5, tyX5, ck5, by decide, uw_at 129 (by decide +kernel) rfl, rfl, by decide +kernel, fun h => by cases h⟩
theorem fl_X1_48 : FR "ComplaintDesk$Letter" 48 5 2 := fp_X1_48.r
theorem fp_X1_62 : FL "ComplaintDesk$Letter" 62 4 2 .int false := ⟨RX4, TX4, 5, tyX4, ck4, by decide, uw_at 99 (by decide +kernel) rfl, rfl, by decide +kernel, fun h => by cases h⟩
theorem fl_X1_62 : FR "ComplaintDesk$Letter" 62 4 2 := fp_X1_62.r
theorem fp_X1_84 : FL "ComplaintDesk$Letter" 84 3 1 (.object "ComplaintDesk$Cause") false := ⟨RX3, TX3, 4, tyX3, ck3, by decide, uw_at 885 (by decide +kernel) rfl, rfl, by decide +kernel, fun h => by cases h⟩
theorem fl_X1_84 : FR "ComplaintDesk$Letter" 84 3 1 := fp_X1_84.r
theorem fl_X1_88 : FR "ComplaintDesk$Letter" 88 0 0 := ⟨RX0, TX0, 6, tyX0, ck0, by decide, uw_at 494 (by decide +kernel) rfl⟩
theorem fl_X2_9 : FR "ComplaintDesk$Pattern" 9 5 0 := ⟨RX5, TX5, 5, tyX5, ck5, by decide, uw_at 123 (by decide +kernel) rfl⟩
theorem fp_X2_15 : FL "ComplaintDesk$Pattern" 15 5 2 .int false := ⟨RX5, TX5, 5, tyX5, ck5, by decide, uw_at 127 (by decide +kernel) rfl, rfl, by decide +kernel, fun h => by cases h⟩
theorem fl_X2_15 : FR "ComplaintDesk$Pattern" 15 5 2 := fp_X2_15.r
theorem fp_X2_25 : FL "ComplaintDesk$Pattern" 25 2 0 (.array .long) true := ⟨RX2, TX2, 3, tyX2, ck2, by decide, uw_at 462 (by decide +kernel) rfl, rfl, by decide +kernel, fun _ => rfl⟩
theorem fl_X2_25 : FR "ComplaintDesk$Pattern" 25 2 0 := fp_X2_25.r
theorem fl_X2_28 : FR "ComplaintDesk$Pattern" 28 5 1 := ⟨RX5, TX5, 5, tyX5, ck5, by decide, uw_at 126 (by decide +kernel) rfl⟩
theorem fp_X2_35 : FL "ComplaintDesk$Pattern" 35 2 1 (.array .int) true := ⟨RX2, TX2, 3, tyX2, ck2, by decide, uw_at 463 (by decide +kernel) rfl, rfl, by decide +kernel, fun _ => rfl⟩
theorem fl_X2_35 : FR "ComplaintDesk$Pattern" 35 2 1 := fp_X2_35.r
theorem fp_X2_38 : FL "ComplaintDesk$Pattern" 38 5 4 .int false := ⟨RX5, TX5, 5, tyX5, ck5, by decide, uw_at 134 (by decide +kernel) rfl, rfl, by decide +kernel, fun h => by cases h⟩
theorem fl_X2_38 : FR "ComplaintDesk$Pattern" 38 5 4 := fp_X2_38.r
theorem fp_X2_41 : FL "ComplaintDesk$Pattern" 41 2 2 .int true := ⟨RX2, TX2, 3, tyX2, ck2, by decide, uw_at 464 (by decide +kernel) rfl, rfl, by decide +kernel, fun _ => rfl⟩
theorem fl_X2_41 : FR "ComplaintDesk$Pattern" 41 2 2 := fp_X2_41.r
theorem fp_X2_62 : FL "ComplaintDesk$Pattern" 62 4 3 .int false := ⟨RX4, TX4, 5, tyX4, ck4, by decide, uw_at 103 (by decide +kernel) rfl, rfl, by decide +kernel, fun h => by cases h⟩
theorem fl_X2_62 : FR "ComplaintDesk$Pattern" 62 4 3 := fp_X2_62.r
theorem fp_X2_75 : FL "ComplaintDesk$Pattern" 75 4 2 .int false := ⟨RX4, TX4, 5, tyX4, ck4, by decide, uw_at 100 (by decide +kernel) rfl, rfl, by decide +kernel, fun h => by cases h⟩
theorem fl_X2_75 : FR "ComplaintDesk$Pattern" 75 4 2 := fp_X2_75.r
theorem fp_X3_9 : FL "ComplaintDesk$Point" 9 3 1 (.object "ComplaintDesk$Cause") false := ⟨RX3, TX3, 4, tyX3, ck3, by decide, uw_at 884 (by decide +kernel) rfl, rfl, by decide +kernel, fun h => by cases h⟩
theorem fl_X3_9 : FR "ComplaintDesk$Point" 9 3 1 := fp_X3_9.r
theorem fp_X3_15 : FL "ComplaintDesk$Point" 15 3 2 .int false := ⟨RX3, TX3, 4, tyX3, ck3, by decide, uw_at 887 (by decide +kernel) rfl, rfl, by decide +kernel, fun h => by cases h⟩
theorem fl_X3_15 : FR "ComplaintDesk$Point" 15 3 2 := fp_X3_15.r
theorem fp_X3_19 : FL "ComplaintDesk$Point" 19 3 3 .int false := ⟨RX3, TX3, 4, tyX3, ck3, by decide, uw_at 889 (by decide +kernel) rfl, rfl, by decide +kernel, fun h => by cases h⟩
theorem fl_X3_19 : FR "ComplaintDesk$Point" 19 3 3 := fp_X3_19.r
theorem fp_X3_22 : FL "ComplaintDesk$Point" 22 3 0 (.array .long) true := ⟨RX3, TX3, 4, tyX3, ck3, by decide, uw_at 882 (by decide +kernel) rfl, rfl, by decide +kernel, fun _ => rfl⟩
theorem fl_X3_22 : FR "ComplaintDesk$Point" 22 3 0 := fp_X3_22.r
theorem fl_X3_26 : FR "ComplaintDesk$Point" 26 0 3 := ⟨RX0, TX0, 6, tyX0, ck0, by decide, uw_at 501 (by decide +kernel) rfl⟩
theorem fl_X3_31 : FR "ComplaintDesk$Point" 31 0 2 := ⟨RX0, TX0, 6, tyX0, ck0, by decide, uw_at 499 (by decide +kernel) rfl⟩
theorem fl_X3_38 : FR "ComplaintDesk$Point" 38 0 4 := ⟨RX0, TX0, 6, tyX0, ck0, by decide, uw_at 503 (by decide +kernel) rfl⟩
theorem fp_X4_9 : FL "ComplaintDesk$Tape" 9 4 0 (.array .byte) true := ⟨RX4, TX4, 5, tyX4, ck4, by decide, uw_at 95 (by decide +kernel) rfl, rfl, by decide +kernel, fun _ => rfl⟩
theorem fl_X4_9 : FR "ComplaintDesk$Tape" 9 4 0 := fp_X4_9.r
theorem fp_X4_15 : FL "ComplaintDesk$Tape" 15 4 1 .int false := ⟨RX4, TX4, 5, tyX4, ck4, by decide, uw_at 96 (by decide +kernel) rfl, rfl, by decide +kernel, fun h => by cases h⟩
theorem fl_X4_15 : FR "ComplaintDesk$Tape" 15 4 1 := fp_X4_15.r
theorem fp_X4_19 : FL "ComplaintDesk$Tape" 19 4 2 .int false := ⟨RX4, TX4, 5, tyX4, ck4, by decide, uw_at 98 (by decide +kernel) rfl, rfl, by decide +kernel, fun h => by cases h⟩
theorem fl_X4_19 : FR "ComplaintDesk$Tape" 19 4 2 := fp_X4_19.r
theorem fp_X4_22 : FL "ComplaintDesk$Tape" 22 4 3 .int false := ⟨RX4, TX4, 5, tyX4, ck4, by decide, uw_at 101 (by decide +kernel) rfl, rfl, by decide +kernel, fun h => by cases h⟩
theorem fl_X4_22 : FR "ComplaintDesk$Tape" 22 4 3 := fp_X4_22.r
theorem fp_X4_25 : FL "ComplaintDesk$Tape" 25 4 4 .int false := ⟨RX4, TX4, 5, tyX4, ck4, by decide, uw_at 104 (by decide +kernel) rfl, rfl, by decide +kernel, fun h => by cases h⟩
theorem fl_X4_25 : FR "ComplaintDesk$Tape" 25 4 4 := fp_X4_25.r
theorem fp_X5_9 : FL "ComplaintDesk$Words" 9 5 0 (.array .long) true := ⟨RX5, TX5, 5, tyX5, ck5, by decide, uw_at 124 (by decide +kernel) rfl, rfl, by decide +kernel, fun _ => rfl⟩
theorem fl_X5_9 : FR "ComplaintDesk$Words" 9 5 0 := fp_X5_9.r
theorem fp_X5_15 : FL "ComplaintDesk$Words" 15 5 1 (.array .int) true := ⟨RX5, TX5, 5, tyX5, ck5, by decide, uw_at 125 (by decide +kernel) rfl, rfl, by decide +kernel, fun _ => rfl⟩
theorem fl_X5_15 : FR "ComplaintDesk$Words" 15 5 1 := fp_X5_15.r
theorem fp_X5_19 : FL "ComplaintDesk$Words" 19 5 2 .int false := ⟨RX5, TX5, 5, tyX5, ck5, by decide, uw_at 128 (by decide +kernel) rfl, rfl, by decide +kernel, fun h => by cases h⟩
theorem fl_X5_19 : FR "ComplaintDesk$Words" 19 5 2 := fp_X5_19.r
theorem fp_X5_23 : FL "ComplaintDesk$Words" 23 5 3 .int false := ⟨RX5, TX5, 5, tyX5, ck5, by decide, uw_at 130 (by decide +kernel) rfl, rfl, by decide +kernel, fun h => by cases h⟩
theorem fl_X5_23 : FR "ComplaintDesk$Words" 23 5 3 := fp_X5_23.r
theorem fp_X5_26 : FL "ComplaintDesk$Words" 26 5 4 .int false := ⟨RX5, TX5, 5, tyX5, ck5, by decide, uw_at 133 (by decide +kernel) rfl, rfl, by decide +kernel, fun h => by cases h⟩
theorem fl_X5_26 : FR "ComplaintDesk$Words" 26 5 4 := fp_X5_26.r
theorem fp_X7_9 : FL "ComplaintDeskModel" 9 7 2 (.array .int) true := ⟨RX7, TX7, 35, tyX7, ck7, by decide, uw_at 1076 (by decide +kernel) rfl, rfl, by decide +kernel, fun _ => rfl⟩
theorem fl_X7_9 : FR "ComplaintDeskModel" 9 7 2 := fp_X7_9.r
theorem fp_X7_13 : FL "ComplaintDeskModel" 13 7 3 (.array .int) true := ⟨RX7, TX7, 35, tyX7, ck7, by decide, uw_at 1077 (by decide +kernel) rfl, rfl, by decide +kernel, fun _ => rfl⟩
theorem fl_X7_13 : FR "ComplaintDeskModel" 13 7 3 := fp_X7_13.r
theorem fp_X7_16 : FL "ComplaintDeskModel" 16 7 4 (.array .int) true := ⟨RX7, TX7, 35, tyX7, ck7, by decide, uw_at 1078 (by decide +kernel) rfl, rfl, by decide +kernel, fun _ => rfl⟩
theorem fl_X7_16 : FR "ComplaintDeskModel" 16 7 4 := fp_X7_16.r
theorem fp_X7_19 : FL "ComplaintDeskModel" 19 7 5 (.array .boolean) true := ⟨RX7, TX7, 35, tyX7, ck7, by decide, uw_at 1079 (by decide +kernel) rfl, rfl, by decide +kernel, fun _ => rfl⟩
theorem fl_X7_19 : FR "ComplaintDeskModel" 19 7 5 := fp_X7_19.r
theorem fp_X7_23 : FL "ComplaintDeskModel" 23 7 6 (.array .int) true := ⟨RX7, TX7, 35, tyX7, ck7, by decide, uw_at 1080 (by decide +kernel) rfl, rfl, by decide +kernel, fun _ => rfl⟩
theorem fl_X7_23 : FR "ComplaintDeskModel" 23 7 6 := fp_X7_23.r
theorem fp_X7_26 : FL "ComplaintDeskModel" 26 7 7 (.array .byte) true := ⟨RX7, TX7, 35, tyX7, ck7, by decide, uw_at 1081 (by decide +kernel) rfl, rfl, by decide +kernel, fun _ => rfl⟩
theorem fl_X7_26 : FR "ComplaintDeskModel" 26 7 7 := fp_X7_26.r
theorem fp_X7_30 : FL "ComplaintDeskModel" 30 7 8 (.array .int) true := ⟨RX7, TX7, 35, tyX7, ck7, by decide, uw_at 1082 (by decide +kernel) rfl, rfl, by decide +kernel, fun _ => rfl⟩
theorem fl_X7_30 : FR "ComplaintDeskModel" 30 7 8 := fp_X7_30.r
theorem fp_X7_33 : FL "ComplaintDeskModel" 33 7 9 (.array .boolean) true := ⟨RX7, TX7, 35, tyX7, ck7, by decide, uw_at 1083 (by decide +kernel) rfl, rfl, by decide +kernel, fun _ => rfl⟩
theorem fl_X7_33 : FR "ComplaintDeskModel" 33 7 9 := fp_X7_33.r
theorem fp_X7_36 : FL "ComplaintDeskModel" 36 7 10 (.array .boolean) true := ⟨RX7, TX7, 35, tyX7, ck7, by decide, uw_at 1084 (by decide +kernel) rfl, rfl, by decide +kernel, fun _ => rfl⟩
theorem fl_X7_36 : FR "ComplaintDeskModel" 36 7 10 := fp_X7_36.r
theorem fp_X7_39 : FL "ComplaintDeskModel" 39 7 12 (.array .int) true := ⟨RX7, TX7, 35, tyX7, ck7, by decide, uw_at 1086 (by decide +kernel) rfl, rfl, by decide +kernel, fun _ => rfl⟩
theorem fl_X7_39 : FR "ComplaintDeskModel" 39 7 12 := fp_X7_39.r
theorem fp_X7_42 : FL "ComplaintDeskModel" 42 7 13 (.array .int) true := ⟨RX7, TX7, 35, tyX7, ck7, by decide, uw_at 1087 (by decide +kernel) rfl, rfl, by decide +kernel, fun _ => rfl⟩
theorem fl_X7_42 : FR "ComplaintDeskModel" 42 7 13 := fp_X7_42.r
theorem fp_X7_45 : FL "ComplaintDeskModel" 45 7 14 (.array .int) true := ⟨RX7, TX7, 35, tyX7, ck7, by decide, uw_at 1088 (by decide +kernel) rfl, rfl, by decide +kernel, fun _ => rfl⟩
theorem fl_X7_45 : FR "ComplaintDeskModel" 45 7 14 := fp_X7_45.r
theorem fp_X7_48 : FL "ComplaintDeskModel" 48 7 15 (.array .int) true := ⟨RX7, TX7, 35, tyX7, ck7, by decide, uw_at 1089 (by decide +kernel) rfl, rfl, by decide +kernel, fun _ => rfl⟩
theorem fl_X7_48 : FR "ComplaintDeskModel" 48 7 15 := fp_X7_48.r
theorem fp_X7_51 : FL "ComplaintDeskModel" 51 7 16 (.array .int) true := ⟨RX7, TX7, 35, tyX7, ck7, by decide, uw_at 1090 (by decide +kernel) rfl, rfl, by decide +kernel, fun _ => rfl⟩
theorem fl_X7_51 : FR "ComplaintDeskModel" 51 7 16 := fp_X7_51.r
theorem fp_X7_54 : FL "ComplaintDeskModel" 54 7 17 (.array .byte) true := ⟨RX7, TX7, 35, tyX7, ck7, by decide, uw_at 1091 (by decide +kernel) rfl, rfl, by decide +kernel, fun _ => rfl⟩
theorem fl_X7_54 : FR "ComplaintDeskModel" 54 7 17 := fp_X7_54.r
theorem fp_X7_57 : FL "ComplaintDeskModel" 57 7 18 (.array .int) true := ⟨RX7, TX7, 35, tyX7, ck7, by decide, uw_at 1092 (by decide +kernel) rfl, rfl, by decide +kernel, fun _ => rfl⟩
theorem fl_X7_57 : FR "ComplaintDeskModel" 57 7 18 := fp_X7_57.r
theorem fp_X7_60 : FL "ComplaintDeskModel" 60 7 19 (.array .int) true := ⟨RX7, TX7, 35, tyX7, ck7, by decide, uw_at 1093 (by decide +kernel) rfl, rfl, by decide +kernel, fun _ => rfl⟩
theorem fl_X7_60 : FR "ComplaintDeskModel" 60 7 19 := fp_X7_60.r
theorem fp_X7_63 : FL "ComplaintDeskModel" 63 7 20 (.array .int) true := ⟨RX7, TX7, 35, tyX7, ck7, by decide, uw_at 1094 (by decide +kernel) rfl, rfl, by decide +kernel, fun _ => rfl⟩
theorem fl_X7_63 : FR "ComplaintDeskModel" 63 7 20 := fp_X7_63.r
theorem fp_X7_66 : FL "ComplaintDeskModel" 66 7 22 (.array .int) true := ⟨RX7, TX7, 35, tyX7, ck7, by decide, uw_at 1096 (by decide +kernel) rfl, rfl, by decide +kernel, fun _ => rfl⟩
theorem fl_X7_66 : FR "ComplaintDeskModel" 66 7 22 := fp_X7_66.r
theorem fp_X7_69 : FL "ComplaintDeskModel" 69 7 23 (.array .int) true := ⟨RX7, TX7, 35, tyX7, ck7, by decide, uw_at 1097 (by decide +kernel) rfl, rfl, by decide +kernel, fun _ => rfl⟩
theorem fl_X7_69 : FR "ComplaintDeskModel" 69 7 23 := fp_X7_69.r
theorem fp_X7_72 : FL "ComplaintDeskModel" 72 7 24 (.array .int) true := ⟨RX7, TX7, 35, tyX7, ck7, by decide, uw_at 1098 (by decide +kernel) rfl, rfl, by decide +kernel, fun _ => rfl⟩
theorem fl_X7_72 : FR "ComplaintDeskModel" 72 7 24 := fp_X7_72.r
theorem fp_X7_75 : FL "ComplaintDeskModel" 75 7 25 (.array .int) true := ⟨RX7, TX7, 35, tyX7, ck7, by decide, uw_at 1099 (by decide +kernel) rfl, rfl, by decide +kernel, fun _ => rfl⟩
theorem fl_X7_75 : FR "ComplaintDeskModel" 75 7 25 := fp_X7_75.r
theorem fp_X7_78 : FL "ComplaintDeskModel" 78 7 27 (.array .byte) true := ⟨RX7, TX7, 35, tyX7, ck7, by decide, uw_at 1101 (by decide +kernel) rfl, rfl, by decide +kernel, fun _ => rfl⟩
theorem fl_X7_78 : FR "ComplaintDeskModel" 78 7 27 := fp_X7_78.r
theorem fp_X7_81 : FL "ComplaintDeskModel" 81 7 32 .int false := ⟨RX7, TX7, 35, tyX7, ck7, by decide, uw_at 1106 (by decide +kernel) rfl, rfl, by decide +kernel, fun h => by cases h⟩
theorem fl_X7_81 : FR "ComplaintDeskModel" 81 7 32 := fp_X7_81.r
theorem fp_X7_85 : FL "ComplaintDeskModel" 85 7 33 (.array .int) true := ⟨RX7, TX7, 35, tyX7, ck7, by decide, uw_at 1107 (by decide +kernel) rfl, rfl, by decide +kernel, fun _ => rfl⟩
theorem fl_X7_85 : FR "ComplaintDeskModel" 85 7 33 := fp_X7_85.r
theorem fp_X7_88 : FL "ComplaintDeskModel" 88 7 34 (.array .int) true := ⟨RX7, TX7, 35, tyX7, ck7, by decide, uw_at 1108 (by decide +kernel) rfl, rfl, by decide +kernel, fun _ => rfl⟩
theorem fl_X7_88 : FR "ComplaintDeskModel" 88 7 34 := fp_X7_88.r
theorem fp_X7_91 : FL "ComplaintDeskModel" 91 7 0 .int false := ⟨RX7, TX7, 35, tyX7, ck7, by decide, uw_at 1074 (by decide +kernel) rfl, rfl, by decide +kernel, fun h => by cases h⟩
theorem fl_X7_91 : FR "ComplaintDeskModel" 91 7 0 := fp_X7_91.r
theorem fp_X7_94 : FL "ComplaintDeskModel" 94 7 11 .int false := ⟨RX7, TX7, 35, tyX7, ck7, by decide, uw_at 1085 (by decide +kernel) rfl, rfl, by decide +kernel, fun h => by cases h⟩
theorem fl_X7_94 : FR "ComplaintDeskModel" 94 7 11 := fp_X7_94.r
theorem fp_X7_101 : FL "ComplaintDeskModel" 101 7 21 .int false := ⟨RX7, TX7, 35, tyX7, ck7, by decide, uw_at 1095 (by decide +kernel) rfl, rfl, by decide +kernel, fun h => by cases h⟩
theorem fl_X7_101 : FR "ComplaintDeskModel" 101 7 21 := fp_X7_101.r
theorem fp_X7_108 : FL "ComplaintDeskModel" 108 7 28 .int false := ⟨RX7, TX7, 35, tyX7, ck7, by decide, uw_at 1102 (by decide +kernel) rfl, rfl, by decide +kernel, fun h => by cases h⟩
theorem fl_X7_108 : FR "ComplaintDeskModel" 108 7 28 := fp_X7_108.r
theorem fp_X7_111 : FL "ComplaintDeskModel" 111 7 30 .int false := ⟨RX7, TX7, 35, tyX7, ck7, by decide, uw_at 1104 (by decide +kernel) rfl, rfl, by decide +kernel, fun h => by cases h⟩
theorem fl_X7_111 : FR "ComplaintDeskModel" 111 7 30 := fp_X7_111.r
theorem fp_X7_114 : FL "ComplaintDeskModel" 114 7 29 .int false := ⟨RX7, TX7, 35, tyX7, ck7, by decide, uw_at 1103 (by decide +kernel) rfl, rfl, by decide +kernel, fun h => by cases h⟩
theorem fl_X7_114 : FR "ComplaintDeskModel" 114 7 29 := fp_X7_114.r
theorem fp_X7_121 : FL "ComplaintDeskModel" 121 7 31 .int false := ⟨RX7, TX7, 35, tyX7, ck7, by decide, uw_at 1105 (by decide +kernel) rfl, rfl, by decide +kernel, fun h => by cases h⟩
theorem fl_X7_121 : FR "ComplaintDeskModel" 121 7 31 := fp_X7_121.r
theorem fp_X7_201 : FL "ComplaintDeskModel" 201 7 1 .int false := ⟨RX7, TX7, 35, tyX7, ck7, by decide, uw_at 1075 (by decide +kernel) rfl, rfl, by decide +kernel, fun h => by cases h⟩
theorem fl_X7_201 : FR "ComplaintDeskModel" 201 7 1 := fp_X7_201.r
theorem fp_X7_217 : FL "ComplaintDeskModel" 217 7 26 .int false := ⟨RX7, TX7, 35, tyX7, ck7, by decide, uw_at 1100 (by decide +kernel) rfl, rfl, by decide +kernel, fun h => by cases h⟩
theorem fl_X7_217 : FR "ComplaintDeskModel" 217 7 26 := fp_X7_217.r
theorem fp_AL_9 : FL "java/util/ArrayList" 9 8 1 (.array (.object "java/lang/Object")) false := ⟨RJx4a65c, TJx4a65c, 3, tyJx4a65c, ck8, by decide, uw_at 162 (by decide +kernel) rfl, rfl, by decide +kernel, fun h => by cases h⟩
theorem fl_AL_9 : FR "java/util/ArrayList" 9 8 1 := fp_AL_9.r
theorem fp_AL_48 : FL "java/util/ArrayList" 48 8 2 .int false := ⟨RJx4a65c, TJx4a65c, 3, tyJx4a65c, ck8, by decide, uw_at 163 (by decide +kernel) rfl, rfl, by decide +kernel, fun h => by cases h⟩
theorem fl_AL_48 : FR "java/util/ArrayList" 48 8 2 := fp_AL_48.r
abbrev M_Jx4a65c_init_da8c8 : gM := (yJx4a65c_init_da8c8, cJx4a65c_init_da8c8, 1, none)
theorem ml_X6_32 : MLi "ComplaintDesk" 32 M_Jx4a65c_init_da8c8 0 := ⟨⟨uw_at 150 (by decide +kernel) rfl, uw_at 152 (by decide +kernel) rfl, uw_at 55 (by decide +kernel) rfl, ⟨by decide +kernel, by decide +kernel⟩, by decide +kernel, by decide⟩, uw_at 151 (by decide +kernel) rfl, rfl⟩
abbrev M_X4_hasRoom : gM := (yX4_hasRoom, cX4_hasRoom, 1, (some .boolean))
theorem ml_X6_56 : MLv "ComplaintDesk" 56 M_X4_hasRoom 0 := ⟨⟨uw_at 212 (by decide +kernel) rfl, uw_at 215 (by decide +kernel) rfl, uw_at 51 (by decide +kernel) rfl, ⟨by decide +kernel, by decide +kernel⟩, by decide +kernel, by decide⟩, uw_at 213 (by decide +kernel) rfl, uw_at 214 (by decide +kernel) rfl⟩
abbrev M_X4_append : gM := (yX4_append, cX4_append, 3, none)
theorem ml_X6_60 : MLv "ComplaintDesk" 60 M_X4_append 1 := ⟨⟨uw_at 216 (by decide +kernel) rfl, uw_at 219 (by decide +kernel) rfl, uw_at 51 (by decide +kernel) rfl, ⟨by decide +kernel, by decide +kernel⟩, by decide +kernel, by decide⟩, uw_at 217 (by decide +kernel) rfl, uw_at 218 (by decide +kernel) rfl⟩
abbrev M_X4_shorten : gM := (yX4_shorten, cX4_shorten, 2, (some .boolean))
theorem ml_X6_67 : MLv "ComplaintDesk" 67 M_X4_shorten 1 := ⟨⟨uw_at 224 (by decide +kernel) rfl, uw_at 227 (by decide +kernel) rfl, uw_at 51 (by decide +kernel) rfl, ⟨by decide +kernel, by decide +kernel⟩, by decide +kernel, by decide⟩, uw_at 225 (by decide +kernel) rfl, uw_at 226 (by decide +kernel) rfl⟩
abbrev M_X4_useUp : gM := (yX4_useUp, cX4_useUp, 1, none)
theorem ml_X6_71 : MLv "ComplaintDesk" 71 M_X4_useUp 0 := ⟨⟨uw_at 289 (by decide +kernel) rfl, uw_at 292 (by decide +kernel) rfl, uw_at 51 (by decide +kernel) rfl, ⟨by decide +kernel, by decide +kernel⟩, by decide +kernel, by decide⟩, uw_at 290 (by decide +kernel) rfl, uw_at 291 (by decide +kernel) rfl⟩
abbrev M_X6_causeAt : gM := (yX6_causeAt, cX6_causeAt, 2, (some (.object "ComplaintDesk$Cause")))
theorem ml_X6_74 : MLv "ComplaintDesk" 74 M_X6_causeAt 1 := ⟨⟨uw_at 293 (by decide +kernel) rfl, uw_at 296 (by decide +kernel) rfl, uw_at 50 (by decide +kernel) rfl, ⟨by decide +kernel, by decide +kernel⟩, by decide +kernel, by decide⟩, uw_at 295 (by decide +kernel) rfl, uw_at 2 (by decide +kernel) rfl⟩
abbrev M_X6_checkDesk : gM := (yX6_checkDesk, cX6_checkDesk, 1, none)
theorem ml_X6_78 : MLs "ComplaintDesk" 78 M_X6_checkDesk 1 := ⟨⟨uw_at 366 (by decide +kernel) rfl, uw_at 368 (by decide +kernel) rfl, uw_at 50 (by decide +kernel) rfl, ⟨by decide +kernel, by decide +kernel⟩, by decide +kernel, by decide⟩, uw_at 367 (by decide +kernel) rfl⟩
abbrev M_X6_readPattern : gM := (yX6_readPattern, cX6_readPattern, 1, (some (.object "ComplaintDesk$Pattern")))
theorem ml_X6_88 : MLv "ComplaintDesk" 88 M_X6_readPattern 0 := ⟨⟨uw_at 386 (by decide +kernel) rfl, uw_at 389 (by decide +kernel) rfl, uw_at 50 (by decide +kernel) rfl, ⟨by decide +kernel, by decide +kernel⟩, by decide +kernel, by decide⟩, uw_at 388 (by decide +kernel) rfl, uw_at 4 (by decide +kernel) rfl⟩
abbrev M_Jx4a65c_size_8abf5 : gM := (yJx4a65c_size_8abf5, cJx4a65c_size_8abf5, 1, (some .int))
theorem ml_X6_92 : MLv "ComplaintDesk" 92 M_Jx4a65c_size_8abf5 0 := ⟨⟨uw_at 236 (by decide +kernel) rfl, uw_at 239 (by decide +kernel) rfl, uw_at 55 (by decide +kernel) rfl, ⟨by decide +kernel, by decide +kernel⟩, by decide +kernel, by decide⟩, uw_at 237 (by decide +kernel) rfl, uw_at 238 (by decide +kernel) rfl⟩
abbrev M_X0_init : gM := (yX0_init, cX0_init, 7, none)
theorem ml_X6_103 : MLi "ComplaintDesk" 103 M_X0_init 6 := ⟨⟨uw_at 489 (by decide +kernel) rfl, uw_at 491 (by decide +kernel) rfl, uw_at 69 (by decide +kernel) rfl, ⟨by decide +kernel, by decide +kernel⟩, by decide +kernel, by decide⟩, uw_at 490 (by decide +kernel) rfl, rfl⟩
abbrev M_Jx4a65c_add_9ea2d : gM := (yJx4a65c_add_9ea2d, cJx4a65c_add_9ea2d, 2, (some .boolean))
theorem ml_X6_106 : MLv "ComplaintDesk" 106 M_Jx4a65c_add_9ea2d 1 := ⟨⟨uw_at 519 (by decide +kernel) rfl, uw_at 522 (by decide +kernel) rfl, uw_at 55 (by decide +kernel) rfl, ⟨by decide +kernel, by decide +kernel⟩, by decide +kernel, by decide⟩, uw_at 520 (by decide +kernel) rfl, uw_at 521 (by decide +kernel) rfl⟩
abbrev M_X6_sortAnew : gM := (yX6_sortAnew, cX6_sortAnew, 6, (some .int))
theorem ml_X6_114 : MLv "ComplaintDesk" 114 M_X6_sortAnew 0 := ⟨⟨uw_at 582 (by decide +kernel) rfl, uw_at 585 (by decide +kernel) rfl, uw_at 50 (by decide +kernel) rfl, ⟨by decide +kernel, by decide +kernel⟩, by decide +kernel, by decide⟩, uw_at 584 (by decide +kernel) rfl, uw_at 10 (by decide +kernel) rfl⟩
abbrev M_X1_firstWrong : gM := (yX1_firstWrong, cX1_firstWrong, 4, (some .int))
theorem ml_X6_119 : MLs "ComplaintDesk" 119 M_X1_firstWrong 2 := ⟨⟨uw_at 611 (by decide +kernel) rfl, uw_at 613 (by decide +kernel) rfl, uw_at 74 (by decide +kernel) rfl, ⟨by decide +kernel, by decide +kernel⟩, by decide +kernel, by decide⟩, uw_at 612 (by decide +kernel) rfl⟩
abbrev M_X1_init : gM := (yX1_init, cX1_init, 3, none)
theorem ml_X6_129 : MLi "ComplaintDesk" 129 M_X1_init 2 := ⟨⟨uw_at 626 (by decide +kernel) rfl, uw_at 628 (by decide +kernel) rfl, uw_at 74 (by decide +kernel) rfl, ⟨by decide +kernel, by decide +kernel⟩, by decide +kernel, by decide⟩, uw_at 627 (by decide +kernel) rfl, rfl⟩
abbrev M_X5_codesOf : gM := (yX5_codesOf, cX5_codesOf, 4, (some (.array .long)))
theorem ml_X6_137 : MLv "ComplaintDesk" 137 M_X5_codesOf 1 := ⟨⟨uw_at 646 (by decide +kernel) rfl, uw_at 649 (by decide +kernel) rfl, uw_at 52 (by decide +kernel) rfl, ⟨by decide +kernel, by decide +kernel⟩, by decide +kernel, by decide⟩, uw_at 647 (by decide +kernel) rfl, uw_at 648 (by decide +kernel) rfl⟩
abbrev M_X3_init : gM := (yX3_init, cX3_init, 2, none)
theorem ml_X6_141 : MLi "ComplaintDesk" 141 M_X3_init 1 := ⟨⟨uw_at 878 (by decide +kernel) rfl, uw_at 880 (by decide +kernel) rfl, uw_at 75 (by decide +kernel) rfl, ⟨by decide +kernel, by decide +kernel⟩, by decide +kernel, by decide⟩, uw_at 879 (by decide +kernel) rfl, rfl⟩
abbrev M_X6_causeOf : gM := (yX6_causeOf, cX6_causeOf, 5, (some (.object "ComplaintDesk$Cause")))
theorem ml_X6_144 : MLv "ComplaintDesk" 144 M_X6_causeOf 1 := ⟨⟨uw_at 587 (by decide +kernel) rfl, uw_at 590 (by decide +kernel) rfl, uw_at 50 (by decide +kernel) rfl, ⟨by decide +kernel, by decide +kernel⟩, by decide +kernel, by decide⟩, uw_at 589 (by decide +kernel) rfl, uw_at 11 (by decide +kernel) rfl⟩
abbrev M_X3_putTo : gM := (yX3_putTo, cX3_putTo, 3, (some .boolean))
theorem ml_X6_151 : MLv "ComplaintDesk" 151 M_X3_putTo 2 := ⟨⟨uw_at 599 (by decide +kernel) rfl, uw_at 602 (by decide +kernel) rfl, uw_at 75 (by decide +kernel) rfl, ⟨by decide +kernel, by decide +kernel⟩, by decide +kernel, by decide⟩, uw_at 600 (by decide +kernel) rfl, uw_at 601 (by decide +kernel) rfl⟩
abbrev M_X6_work : gM := (yX6_work, cX6_work, 4, none)
theorem ml_X6_160 : MLv "ComplaintDesk" 160 M_X6_work 1 := ⟨⟨uw_at 915 (by decide +kernel) rfl, uw_at 918 (by decide +kernel) rfl, uw_at 50 (by decide +kernel) rfl, ⟨by decide +kernel, by decide +kernel⟩, by decide +kernel, by decide⟩, uw_at 917 (by decide +kernel) rfl, uw_at 12 (by decide +kernel) rfl⟩
abbrev M_X6_letterAt : gM := (yX6_letterAt, cX6_letterAt, 2, (some (.object "ComplaintDesk$Letter")))
theorem ml_X6_163 : MLv "ComplaintDesk" 163 M_X6_letterAt 1 := ⟨⟨uw_at 942 (by decide +kernel) rfl, uw_at 945 (by decide +kernel) rfl, uw_at 50 (by decide +kernel) rfl, ⟨by decide +kernel, by decide +kernel⟩, by decide +kernel, by decide⟩, uw_at 944 (by decide +kernel) rfl, uw_at 15 (by decide +kernel) rfl⟩
abbrev M_X1_pointAt : gM := (yX1_pointAt, cX1_pointAt, 2, (some (.object "ComplaintDesk$Point")))
theorem ml_X6_167 : MLv "ComplaintDesk" 167 M_X1_pointAt 1 := ⟨⟨uw_at 947 (by decide +kernel) rfl, uw_at 950 (by decide +kernel) rfl, uw_at 74 (by decide +kernel) rfl, ⟨by decide +kernel, by decide +kernel⟩, by decide +kernel, by decide⟩, uw_at 948 (by decide +kernel) rfl, uw_at 949 (by decide +kernel) rfl⟩
abbrev M_X3_isAnswered : gM := (yX3_isAnswered, cX3_isAnswered, 1, (some .boolean))
theorem ml_X6_171 : MLv "ComplaintDesk" 171 M_X3_isAnswered 0 := ⟨⟨uw_at 586 (by decide +kernel) rfl, uw_at 269 (by decide +kernel) rfl, uw_at 75 (by decide +kernel) rfl, ⟨by decide +kernel, by decide +kernel⟩, by decide +kernel, by decide⟩, uw_at 267 (by decide +kernel) rfl, uw_at 268 (by decide +kernel) rfl⟩
abbrev M_X6_matter : gM := (yX6_matter, cX6_matter, 7, (some .int))
theorem ml_X6_190 : MLv "ComplaintDesk" 190 M_X6_matter 2 := ⟨⟨uw_at 962 (by decide +kernel) rfl, uw_at 965 (by decide +kernel) rfl, uw_at 50 (by decide +kernel) rfl, ⟨by decide +kernel, by decide +kernel⟩, by decide +kernel, by decide⟩, uw_at 964 (by decide +kernel) rfl, uw_at 16 (by decide +kernel) rfl⟩
abbrev M_X1_isClosed : gM := (yX1_isClosed, cX1_isClosed, 2, (some .boolean))
theorem ml_X6_203 : MLv "ComplaintDesk" 203 M_X1_isClosed 0 := ⟨⟨uw_at 259 (by decide +kernel) rfl, uw_at 262 (by decide +kernel) rfl, uw_at 74 (by decide +kernel) rfl, ⟨by decide +kernel, by decide +kernel⟩, by decide +kernel, by decide⟩, uw_at 260 (by decide +kernel) rfl, uw_at 261 (by decide +kernel) rfl⟩
abbrev M_X1_causeBits : gM := (yX1_causeBits, cX1_causeBits, 4, (some .int))
theorem ml_X6_206 : MLv "ComplaintDesk" 206 M_X1_causeBits 0 := ⟨⟨uw_at 989 (by decide +kernel) rfl, uw_at 992 (by decide +kernel) rfl, uw_at 74 (by decide +kernel) rfl, ⟨by decide +kernel, by decide +kernel⟩, by decide +kernel, by decide⟩, uw_at 990 (by decide +kernel) rfl, uw_at 991 (by decide +kernel) rfl⟩
abbrev M_X6_fewestTemplates : gM := (yX6_fewestTemplates, cX6_fewestTemplates, 6, (some .int))
theorem ml_X6_209 : MLv "ComplaintDesk" 209 M_X6_fewestTemplates 1 := ⟨⟨uw_at 993 (by decide +kernel) rfl, uw_at 996 (by decide +kernel) rfl, uw_at 50 (by decide +kernel) rfl, ⟨by decide +kernel, by decide +kernel⟩, by decide +kernel, by decide⟩, uw_at 995 (by decide +kernel) rfl, uw_at 17 (by decide +kernel) rfl⟩
abbrev M_X6_fillDueInDays : gM := (yX6_fillDueInDays, cX6_fillDueInDays, 8, (some .int))
theorem ml_X6_215 : MLv "ComplaintDesk" 215 M_X6_fillDueInDays 1 := ⟨⟨uw_at 1015 (by decide +kernel) rfl, uw_at 1018 (by decide +kernel) rfl, uw_at 50 (by decide +kernel) rfl, ⟨by decide +kernel, by decide +kernel⟩, by decide +kernel, by decide⟩, uw_at 1017 (by decide +kernel) rfl, uw_at 19 (by decide +kernel) rfl⟩
abbrev M_J9_min_7cf53 : gM := (yJ9_min_7cf53, cJ9_min_7cf53, 2, (some .int))
theorem ml_X6_218 : MLs "ComplaintDesk" 218 M_J9_min_7cf53 2 := ⟨⟨uw_at 1022 (by decide +kernel) rfl, uw_at 450 (by decide +kernel) rfl, uw_at 66 (by decide +kernel) rfl, ⟨by decide +kernel, by decide +kernel⟩, by decide +kernel, by decide⟩, uw_at 449 (by decide +kernel) rfl⟩
abbrev M_Jx4a65c_get_915e3 : gM := (yJx4a65c_get_915e3, cJx4a65c_get_915e3, 2, (some (.object "java/lang/Object")))
theorem ml_X6_224 : MLv "ComplaintDesk" 224 M_Jx4a65c_get_915e3 1 := ⟨⟨uw_at 244 (by decide +kernel) rfl, uw_at 247 (by decide +kernel) rfl, uw_at 55 (by decide +kernel) rfl, ⟨by decide +kernel, by decide +kernel⟩, by decide +kernel, by decide⟩, uw_at 245 (by decide +kernel) rfl, uw_at 246 (by decide +kernel) rfl⟩
abbrev M_X3_isWaitingAt : gM := (yX3_isWaitingAt, cX3_isWaitingAt, 2, (some .boolean))
theorem ml_X6_228 : MLv "ComplaintDesk" 228 M_X3_isWaitingAt 1 := ⟨⟨uw_at 923 (by decide +kernel) rfl, uw_at 926 (by decide +kernel) rfl, uw_at 75 (by decide +kernel) rfl, ⟨by decide +kernel, by decide +kernel⟩, by decide +kernel, by decide⟩, uw_at 924 (by decide +kernel) rfl, uw_at 925 (by decide +kernel) rfl⟩
abbrev M_X6_fillCountOfDay : gM := (yX6_fillCountOfDay, cX6_fillCountOfDay, 4, none)
theorem ml_X6_233 : MLv "ComplaintDesk" 233 M_X6_fillCountOfDay 1 := ⟨⟨uw_at 1045 (by decide +kernel) rfl, uw_at 1048 (by decide +kernel) rfl, uw_at 50 (by decide +kernel) rfl, ⟨by decide +kernel, by decide +kernel⟩, by decide +kernel, by decide⟩, uw_at 1047 (by decide +kernel) rfl, uw_at 20 (by decide +kernel) rfl⟩
abbrev M_X6_isRare : gM := (yX6_isRare, cX6_isRare, 4, (some .boolean))
theorem ml_X6_237 : MLv "ComplaintDesk" 237 M_X6_isRare 1 := ⟨⟨uw_at 1064 (by decide +kernel) rfl, uw_at 1067 (by decide +kernel) rfl, uw_at 50 (by decide +kernel) rfl, ⟨by decide +kernel, by decide +kernel⟩, by decide +kernel, by decide⟩, uw_at 1066 (by decide +kernel) rfl, uw_at 21 (by decide +kernel) rfl⟩
abbrev M_X6_closedLetters : gM := (yX6_closedLetters, cX6_closedLetters, 3, (some .int))
theorem ml_X6_240 : MLv "ComplaintDesk" 240 M_X6_closedLetters 0 := ⟨⟨uw_at 240 (by decide +kernel) rfl, uw_at 243 (by decide +kernel) rfl, uw_at 50 (by decide +kernel) rfl, ⟨by decide +kernel, by decide +kernel⟩, by decide +kernel, by decide⟩, uw_at 242 (by decide +kernel) rfl, uw_at 0 (by decide +kernel) rfl⟩
abbrev M_X6_pointsCounted : gM := (yX6_pointsCounted, cX6_pointsCounted, 6, (some .int))
theorem ml_X6_243 : MLv "ComplaintDesk" 243 M_X6_pointsCounted 1 := ⟨⟨uw_at 270 (by decide +kernel) rfl, uw_at 273 (by decide +kernel) rfl, uw_at 50 (by decide +kernel) rfl, ⟨by decide +kernel, by decide +kernel⟩, by decide +kernel, by decide⟩, uw_at 272 (by decide +kernel) rfl, uw_at 1 (by decide +kernel) rfl⟩
abbrev M_X2_firstWrong : gM := (yX2_firstWrong, cX2_firstWrong, 7, (some .int))
theorem ml_X6_255 : MLs "ComplaintDesk" 255 M_X2_firstWrong 2 := ⟨⟨uw_at 390 (by decide +kernel) rfl, uw_at 392 (by decide +kernel) rfl, uw_at 64 (by decide +kernel) rfl, ⟨by decide +kernel, by decide +kernel⟩, by decide +kernel, by decide⟩, uw_at 391 (by decide +kernel) rfl⟩
abbrev M_X2_init : gM := (yX2_init, cX2_init, 2, none)
theorem ml_X6_258 : MLi "ComplaintDesk" 258 M_X2_init 1 := ⟨⟨uw_at 434 (by decide +kernel) rfl, uw_at 436 (by decide +kernel) rfl, uw_at 64 (by decide +kernel) rfl, ⟨by decide +kernel, by decide +kernel⟩, by decide +kernel, by decide⟩, uw_at 435 (by decide +kernel) rfl, rfl⟩
abbrev M_X2_fits : gM := (yX2_fits, cX2_fits, 6, (some .boolean))
theorem ml_X6_264 : MLv "ComplaintDesk" 264 M_X2_fits 1 := ⟨⟨uw_at 591 (by decide +kernel) rfl, uw_at 594 (by decide +kernel) rfl, uw_at 64 (by decide +kernel) rfl, ⟨by decide +kernel, by decide +kernel⟩, by decide +kernel, by decide⟩, uw_at 592 (by decide +kernel) rfl, uw_at 593 (by decide +kernel) rfl⟩
abbrev M_X6_firstWaiting : gM := (yX6_firstWaiting, cX6_firstWaiting, 7, (some (.object "ComplaintDesk$Point")))
theorem ml_X6_268 : MLv "ComplaintDesk" 268 M_X6_firstWaiting 1 := ⟨⟨uw_at 919 (by decide +kernel) rfl, uw_at 922 (by decide +kernel) rfl, uw_at 50 (by decide +kernel) rfl, ⟨by decide +kernel, by decide +kernel⟩, by decide +kernel, by decide⟩, uw_at 921 (by decide +kernel) rfl, uw_at 13 (by decide +kernel) rfl⟩
abbrev M_X3_isMorePressing : gM := (yX3_isMorePressing, cX3_isMorePressing, 2, (some .boolean))
theorem ml_X6_271 : MLv "ComplaintDesk" 271 M_X3_isMorePressing 1 := ⟨⟨uw_at 927 (by decide +kernel) rfl, uw_at 930 (by decide +kernel) rfl, uw_at 75 (by decide +kernel) rfl, ⟨by decide +kernel, by decide +kernel⟩, by decide +kernel, by decide⟩, uw_at 928 (by decide +kernel) rfl, uw_at 929 (by decide +kernel) rfl⟩
abbrev M_J6_bitCount_0f7a4 : gM := (yJ6_bitCount_0f7a4, cJ6_bitCount_0f7a4, 1, (some .int))
theorem ml_X6_274 : MLs "ComplaintDesk" 274 M_J6_bitCount_0f7a4 1 := ⟨⟨uw_at 997 (by decide +kernel) rfl, uw_at 999 (by decide +kernel) rfl, uw_at 79 (by decide +kernel) rfl, ⟨by decide +kernel, by decide +kernel⟩, by decide +kernel, by decide⟩, uw_at 998 (by decide +kernel) rfl⟩
abbrev M_X6_causesOfSet : gM := (yX6_causesOfSet, cX6_causesOfSet, 4, (some .int))
theorem ml_X6_279 : MLv "ComplaintDesk" 279 M_X6_causesOfSet 1 := ⟨⟨uw_at 1003 (by decide +kernel) rfl, uw_at 1006 (by decide +kernel) rfl, uw_at 50 (by decide +kernel) rfl, ⟨by decide +kernel, by decide +kernel⟩, by decide +kernel, by decide⟩, uw_at 1005 (by decide +kernel) rfl, uw_at 18 (by decide +kernel) rfl⟩
abbrev M_J7_fill_53178 : gM := (yJ7_fill_53178, cJ7_fill_53178, 4, none)
theorem ml_X6_282 : MLs "ComplaintDesk" 282 M_J7_fill_53178 2 := ⟨⟨uw_at 1019 (by decide +kernel) rfl, uw_at 1021 (by decide +kernel) rfl, uw_at 65 (by decide +kernel) rfl, ⟨by decide +kernel, by decide +kernel⟩, by decide +kernel, by decide⟩, uw_at 1020 (by decide +kernel) rfl⟩
abbrev M_X1_pointsUnder : gM := (yX1_pointsUnder, cX1_pointsUnder, 5, (some .int))
theorem ml_X6_288 : MLv "ComplaintDesk" 288 M_X1_pointsUnder 1 := ⟨⟨uw_at 1049 (by decide +kernel) rfl, uw_at 1052 (by decide +kernel) rfl, uw_at 74 (by decide +kernel) rfl, ⟨by decide +kernel, by decide +kernel⟩, by decide +kernel, by decide⟩, uw_at 1050 (by decide +kernel) rfl, uw_at 1051 (by decide +kernel) rfl⟩
abbrev M_X3_isCountedAs : gM := (yX3_isCountedAs, cX3_isCountedAs, 2, (some .boolean))
theorem ml_X6_292 : MLv "ComplaintDesk" 292 M_X3_isCountedAs 1 := ⟨⟨uw_at 275 (by decide +kernel) rfl, uw_at 278 (by decide +kernel) rfl, uw_at 75 (by decide +kernel) rfl, ⟨by decide +kernel, by decide +kernel⟩, by decide +kernel, by decide⟩, uw_at 276 (by decide +kernel) rfl, uw_at 277 (by decide +kernel) rfl⟩
theorem ml_X1_11 : MLi "ComplaintDesk$Letter" 11 M_Jx4a65c_init_da8c8 0 := ⟨⟨uw_at 631 (by decide +kernel) rfl, uw_at 152 (by decide +kernel) rfl, uw_at 55 (by decide +kernel) rfl, ⟨by decide +kernel, by decide +kernel⟩, by decide +kernel, by decide⟩, uw_at 151 (by decide +kernel) rfl, rfl⟩
abbrev M_X5_clear : gM := (yX5_clear, cX5_clear, 1, none)
theorem ml_X1_25 : MLv "ComplaintDesk$Letter" 25 M_X5_clear 0 := ⟨⟨uw_at 614 (by decide +kernel) rfl, uw_at 396 (by decide +kernel) rfl, uw_at 52 (by decide +kernel) rfl, ⟨by decide +kernel, by decide +kernel⟩, by decide +kernel, by decide⟩, uw_at 394 (by decide +kernel) rfl, uw_at 395 (by decide +kernel) rfl⟩
abbrev M_X4_next : gM := (yX4_next, cX4_next, 1, (some .boolean))
theorem ml_X1_30 : MLv "ComplaintDesk$Letter" 30 M_X4_next 0 := ⟨⟨uw_at 615 (by decide +kernel) rfl, uw_at 404 (by decide +kernel) rfl, uw_at 51 (by decide +kernel) rfl, ⟨by decide +kernel, by decide +kernel⟩, by decide +kernel, by decide⟩, uw_at 402 (by decide +kernel) rfl, uw_at 403 (by decide +kernel) rfl⟩
abbrev M_X4_isWord : gM := (yX4_isWord, cX4_isWord, 1, (some .boolean))
theorem ml_X1_36 : MLv "ComplaintDesk$Letter" 36 M_X4_isWord 0 := ⟨⟨uw_at 616 (by decide +kernel) rfl, uw_at 420 (by decide +kernel) rfl, uw_at 51 (by decide +kernel) rfl, ⟨by decide +kernel, by decide +kernel⟩, by decide +kernel, by decide⟩, uw_at 418 (by decide +kernel) rfl, uw_at 419 (by decide +kernel) rfl⟩
abbrev M_X5_beginPart : gM := (yX5_beginPart, cX5_beginPart, 1, none)
theorem ml_X1_45 : MLv "ComplaintDesk$Letter" 45 M_X5_beginPart 0 := ⟨⟨uw_at 617 (by decide +kernel) rfl, uw_at 400 (by decide +kernel) rfl, uw_at 52 (by decide +kernel) rfl, ⟨by decide +kernel, by decide +kernel⟩, by decide +kernel, by decide⟩, uw_at 398 (by decide +kernel) rfl, uw_at 399 (by decide +kernel) rfl⟩
abbrev M_X4_codeOfThing : gM := (yX4_codeOfThing, cX4_codeOfThing, 4, (some .long))
theorem ml_X1_51 : MLv "ComplaintDesk$Letter" 51 M_X4_codeOfThing 0 := ⟨⟨uw_at 618 (by decide +kernel) rfl, uw_at 416 (by decide +kernel) rfl, uw_at 51 (by decide +kernel) rfl, ⟨by decide +kernel, by decide +kernel⟩, by decide +kernel, by decide⟩, uw_at 414 (by decide +kernel) rfl, uw_at 415 (by decide +kernel) rfl⟩
abbrev M_X5_add : gM := (yX5_add, cX5_add, 4, none)
theorem ml_X1_55 : MLv "ComplaintDesk$Letter" 55 M_X5_add 2 := ⟨⟨uw_at 619 (by decide +kernel) rfl, uw_at 430 (by decide +kernel) rfl, uw_at 52 (by decide +kernel) rfl, ⟨by decide +kernel, by decide +kernel⟩, by decide +kernel, by decide⟩, uw_at 428 (by decide +kernel) rfl, uw_at 429 (by decide +kernel) rfl⟩
abbrev M_X4_isStop : gM := (yX4_isStop, cX4_isStop, 1, (some .boolean))
theorem ml_X1_59 : MLv "ComplaintDesk$Letter" 59 M_X4_isStop 0 := ⟨⟨uw_at 620 (by decide +kernel) rfl, uw_at 623 (by decide +kernel) rfl, uw_at 51 (by decide +kernel) rfl, ⟨by decide +kernel, by decide +kernel⟩, by decide +kernel, by decide⟩, uw_at 621 (by decide +kernel) rfl, uw_at 622 (by decide +kernel) rfl⟩
theorem ml_X1_65 : MLv "ComplaintDesk$Letter" 65 M_Jx4a65c_size_8abf5 0 := ⟨⟨uw_at 263 (by decide +kernel) rfl, uw_at 239 (by decide +kernel) rfl, uw_at 55 (by decide +kernel) rfl, ⟨by decide +kernel, by decide +kernel⟩, by decide +kernel, by decide⟩, uw_at 237 (by decide +kernel) rfl, uw_at 238 (by decide +kernel) rfl⟩
theorem ml_X1_75 : MLv "ComplaintDesk$Letter" 75 M_Jx4a65c_get_915e3 1 := ⟨⟨uw_at 264 (by decide +kernel) rfl, uw_at 247 (by decide +kernel) rfl, uw_at 55 (by decide +kernel) rfl, ⟨by decide +kernel, by decide +kernel⟩, by decide +kernel, by decide⟩, uw_at 245 (by decide +kernel) rfl, uw_at 246 (by decide +kernel) rfl⟩
theorem ml_X1_81 : MLv "ComplaintDesk$Letter" 81 M_X3_isAnswered 0 := ⟨⟨uw_at 266 (by decide +kernel) rfl, uw_at 269 (by decide +kernel) rfl, uw_at 75 (by decide +kernel) rfl, ⟨by decide +kernel, by decide +kernel⟩, by decide +kernel, by decide⟩, uw_at 267 (by decide +kernel) rfl, uw_at 268 (by decide +kernel) rfl⟩
abbrev M_X0_isUnder : gM := (yX0_isUnder, cX0_isUnder, 3, (some .boolean))
theorem ml_X1_93 : MLv "ComplaintDesk$Letter" 93 M_X0_isUnder 1 := ⟨⟨uw_at 1053 (by decide +kernel) rfl, uw_at 1056 (by decide +kernel) rfl, uw_at 69 (by decide +kernel) rfl, ⟨by decide +kernel, by decide +kernel⟩, by decide +kernel, by decide⟩, uw_at 1054 (by decide +kernel) rfl, uw_at 1055 (by decide +kernel) rfl⟩
abbrev M_J7_copyOf_c38d5 : gM := (yJ7_copyOf_c38d5, cJ7_copyOf_c38d5, 3, (some (.array .long)))
theorem ml_X2_19 : MLs "ComplaintDesk$Pattern" 19 M_J7_copyOf_c38d5 2 := ⟨⟨uw_at 438 (by decide +kernel) rfl, uw_at 440 (by decide +kernel) rfl, uw_at 65 (by decide +kernel) rfl, ⟨by decide +kernel, by decide +kernel⟩, by decide +kernel, by decide⟩, uw_at 439 (by decide +kernel) rfl⟩
abbrev M_J7_copyOf_59c91 : gM := (yJ7_copyOf_59c91, cJ7_copyOf_59c91, 3, (some (.array .int)))
theorem ml_X2_32 : MLs "ComplaintDesk$Pattern" 32 M_J7_copyOf_59c91 2 := ⟨⟨uw_at 454 (by decide +kernel) rfl, uw_at 456 (by decide +kernel) rfl, uw_at 65 (by decide +kernel) rfl, ⟨by decide +kernel, by decide +kernel⟩, by decide +kernel, by decide⟩, uw_at 455 (by decide +kernel) rfl⟩
theorem ml_X2_42 : MLv "ComplaintDesk$Pattern" 42 M_X5_clear 0 := ⟨⟨uw_at 393 (by decide +kernel) rfl, uw_at 396 (by decide +kernel) rfl, uw_at 52 (by decide +kernel) rfl, ⟨by decide +kernel, by decide +kernel⟩, by decide +kernel, by decide⟩, uw_at 394 (by decide +kernel) rfl, uw_at 395 (by decide +kernel) rfl⟩
theorem ml_X2_45 : MLv "ComplaintDesk$Pattern" 45 M_X5_beginPart 0 := ⟨⟨uw_at 397 (by decide +kernel) rfl, uw_at 400 (by decide +kernel) rfl, uw_at 52 (by decide +kernel) rfl, ⟨by decide +kernel, by decide +kernel⟩, by decide +kernel, by decide⟩, uw_at 398 (by decide +kernel) rfl, uw_at 399 (by decide +kernel) rfl⟩
theorem ml_X2_48 : MLv "ComplaintDesk$Pattern" 48 M_X4_next 0 := ⟨⟨uw_at 401 (by decide +kernel) rfl, uw_at 404 (by decide +kernel) rfl, uw_at 51 (by decide +kernel) rfl, ⟨by decide +kernel, by decide +kernel⟩, by decide +kernel, by decide⟩, uw_at 402 (by decide +kernel) rfl, uw_at 403 (by decide +kernel) rfl⟩
theorem ml_X2_54 : MLv "ComplaintDesk$Pattern" 54 M_X4_codeOfThing 0 := ⟨⟨uw_at 413 (by decide +kernel) rfl, uw_at 416 (by decide +kernel) rfl, uw_at 51 (by decide +kernel) rfl, ⟨by decide +kernel, by decide +kernel⟩, by decide +kernel, by decide⟩, uw_at 414 (by decide +kernel) rfl, uw_at 415 (by decide +kernel) rfl⟩
abbrev M_X2_isPlainWord : gM := (yX2_isPlainWord, cX2_isPlainWord, 2, (some .boolean))
theorem ml_X2_67 : MLs "ComplaintDesk$Pattern" 67 M_X2_isPlainWord 1 := ⟨⟨uw_at 424 (by decide +kernel) rfl, uw_at 426 (by decide +kernel) rfl, uw_at 64 (by decide +kernel) rfl, ⟨by decide +kernel, by decide +kernel⟩, by decide +kernel, by decide⟩, uw_at 425 (by decide +kernel) rfl⟩
theorem ml_X2_71 : MLv "ComplaintDesk$Pattern" 71 M_X5_add 2 := ⟨⟨uw_at 427 (by decide +kernel) rfl, uw_at 430 (by decide +kernel) rfl, uw_at 52 (by decide +kernel) rfl, ⟨by decide +kernel, by decide +kernel⟩, by decide +kernel, by decide⟩, uw_at 428 (by decide +kernel) rfl, uw_at 429 (by decide +kernel) rfl⟩
abbrev M_X3_hasWord : gM := (yX3_hasWord, cX3_hasWord, 4, (some .boolean))
theorem ml_X2_78 : MLv "ComplaintDesk$Pattern" 78 M_X3_hasWord 1 := ⟨⟨uw_at 595 (by decide +kernel) rfl, uw_at 598 (by decide +kernel) rfl, uw_at 75 (by decide +kernel) rfl, ⟨by decide +kernel, by decide +kernel⟩, by decide +kernel, by decide⟩, uw_at 596 (by decide +kernel) rfl, uw_at 597 (by decide +kernel) rfl⟩
abbrev M_X3_isThreat : gM := (yX3_isThreat, cX3_isThreat, 1, (some .boolean))
theorem ml_X3_34 : MLv "ComplaintDesk$Point" 34 M_X3_isThreat 0 := ⟨⟨uw_at 931 (by decide +kernel) rfl, uw_at 934 (by decide +kernel) rfl, uw_at 75 (by decide +kernel) rfl, ⟨by decide +kernel, by decide +kernel⟩, by decide +kernel, by decide⟩, uw_at 933 (by decide +kernel) rfl, uw_at 14 (by decide +kernel) rfl⟩
abbrev M_X4_byteAt : gM := (yX4_byteAt, cX4_byteAt, 2, (some .int))
theorem ml_X4_28 : MLv "ComplaintDesk$Tape" 28 M_X4_byteAt 1 := ⟨⟨uw_at 405 (by decide +kernel) rfl, uw_at 408 (by decide +kernel) rfl, uw_at 51 (by decide +kernel) rfl, ⟨by decide +kernel, by decide +kernel⟩, by decide +kernel, by decide⟩, uw_at 407 (by decide +kernel) rfl, uw_at 5 (by decide +kernel) rfl⟩
abbrev M_X4_isLetterAt : gM := (yX4_isLetterAt, cX4_isLetterAt, 3, (some .boolean))
theorem ml_X4_32 : MLv "ComplaintDesk$Tape" 32 M_X4_isLetterAt 1 := ⟨⟨uw_at 409 (by decide +kernel) rfl, uw_at 412 (by decide +kernel) rfl, uw_at 51 (by decide +kernel) rfl, ⟨by decide +kernel, by decide +kernel⟩, by decide +kernel, by decide⟩, uw_at 411 (by decide +kernel) rfl, uw_at 6 (by decide +kernel) rfl⟩
theorem ml_X4_36 : MLv "ComplaintDesk$Tape" 36 M_X4_isWord 0 := ⟨⟨uw_at 417 (by decide +kernel) rfl, uw_at 420 (by decide +kernel) rfl, uw_at 51 (by decide +kernel) rfl, ⟨by decide +kernel, by decide +kernel⟩, by decide +kernel, by decide⟩, uw_at 418 (by decide +kernel) rfl, uw_at 419 (by decide +kernel) rfl⟩
abbrev M_J7_copyOfRange_23910 : gM := (yJ7_copyOfRange_23910, cJ7_copyOfRange_23910, 3, (some (.array .long)))
theorem ml_X5_29 : MLs "ComplaintDesk$Words" 29 M_J7_copyOfRange_23910 3 := ⟨⟨uw_at 650 (by decide +kernel) rfl, uw_at 652 (by decide +kernel) rfl, uw_at 65 (by decide +kernel) rfl, ⟨by decide +kernel, by decide +kernel⟩, by decide +kernel, by decide⟩, uw_at 651 (by decide +kernel) rfl⟩
abbrev M_X6_cause : gM := (yX6_cause, cX6_cause, 7, (some .int))
theorem ml_L_7 : MLv "ComplaintDeskLaw" 7 M_X6_cause 4 := ⟨⟨uw_at 285 (by decide +kernel) rfl, uw_at 288 (by decide +kernel) rfl, uw_at 50 (by decide +kernel) rfl, ⟨by decide +kernel, by decide +kernel⟩, by decide +kernel, by decide⟩, uw_at 286 (by decide +kernel) rfl, uw_at 287 (by decide +kernel) rfl⟩
abbrev M_X6_pattern : gM := (yX6_pattern, cX6_pattern, 3, (some .int))
theorem ml_L_19 : MLv "ComplaintDeskLaw" 19 M_X6_pattern 1 := ⟨⟨uw_at 578 (by decide +kernel) rfl, uw_at 581 (by decide +kernel) rfl, uw_at 50 (by decide +kernel) rfl, ⟨by decide +kernel, by decide +kernel⟩, by decide +kernel, by decide⟩, uw_at 579 (by decide +kernel) rfl, uw_at 580 (by decide +kernel) rfl⟩
abbrev M_X6_letter : gM := (yX6_letter, cX6_letter, 5, (some .int))
theorem ml_L_23 : MLv "ComplaintDeskLaw" 23 M_X6_letter 1 := ⟨⟨uw_at 606 (by decide +kernel) rfl, uw_at 609 (by decide +kernel) rfl, uw_at 50 (by decide +kernel) rfl, ⟨by decide +kernel, by decide +kernel⟩, by decide +kernel, by decide⟩, uw_at 607 (by decide +kernel) rfl, uw_at 608 (by decide +kernel) rfl⟩
abbrev M_X6_hours : gM := (yX6_hours, cX6_hours, 3, none)
theorem ml_L_26 : MLv "ComplaintDeskLaw" 26 M_X6_hours 2 := ⟨⟨uw_at 903 (by decide +kernel) rfl, uw_at 906 (by decide +kernel) rfl, uw_at 50 (by decide +kernel) rfl, ⟨by decide +kernel, by decide +kernel⟩, by decide +kernel, by decide⟩, uw_at 904 (by decide +kernel) rfl, uw_at 905 (by decide +kernel) rfl⟩
abbrev M_X6_days : gM := (yX6_days, cX6_days, 4, (some .int))
theorem ml_L_30 : MLv "ComplaintDeskLaw" 30 M_X6_days 1 := ⟨⟨uw_at 911 (by decide +kernel) rfl, uw_at 914 (by decide +kernel) rfl, uw_at 50 (by decide +kernel) rfl, ⟨by decide +kernel, by decide +kernel⟩, by decide +kernel, by decide⟩, uw_at 912 (by decide +kernel) rfl, uw_at 913 (by decide +kernel) rfl⟩
abbrev M_X6_answer : gM := (yX6_answer, cX6_answer, 4, (some .boolean))
theorem ml_L_33 : MLv "ComplaintDeskLaw" 33 M_X6_answer 2 := ⟨⟨uw_at 938 (by decide +kernel) rfl, uw_at 941 (by decide +kernel) rfl, uw_at 50 (by decide +kernel) rfl, ⟨by decide +kernel, by decide +kernel⟩, by decide +kernel, by decide⟩, uw_at 939 (by decide +kernel) rfl, uw_at 940 (by decide +kernel) rfl⟩
abbrev M_X6_point : gM := (yX6_point, cX6_point, 6, (some .int))
theorem ml_L_37 : MLv "ComplaintDeskLaw" 37 M_X6_point 3 := ⟨⟨uw_at 958 (by decide +kernel) rfl, uw_at 961 (by decide +kernel) rfl, uw_at 50 (by decide +kernel) rfl, ⟨by decide +kernel, by decide +kernel⟩, by decide +kernel, by decide⟩, uw_at 959 (by decide +kernel) rfl, uw_at 960 (by decide +kernel) rfl⟩
abbrev M_X6_look : gM := (yX6_look, cX6_look, 4, (some .int))
theorem ml_L_43 : MLv "ComplaintDeskLaw" 43 M_X6_look 2 := ⟨⟨uw_at 985 (by decide +kernel) rfl, uw_at 988 (by decide +kernel) rfl, uw_at 50 (by decide +kernel) rfl, ⟨by decide +kernel, by decide +kernel⟩, by decide +kernel, by decide⟩, uw_at 986 (by decide +kernel) rfl, uw_at 987 (by decide +kernel) rfl⟩
abbrev M_X6_late : gM := (yX6_late, cX6_late, 5, (some .int))
theorem ml_L_47 : MLv "ComplaintDeskLaw" 47 M_X6_late 1 := ⟨⟨uw_at 1011 (by decide +kernel) rfl, uw_at 1014 (by decide +kernel) rfl, uw_at 50 (by decide +kernel) rfl, ⟨by decide +kernel, by decide +kernel⟩, by decide +kernel, by decide⟩, uw_at 1012 (by decide +kernel) rfl, uw_at 1013 (by decide +kernel) rfl⟩
abbrev M_X6_waits : gM := (yX6_waits, cX6_waits, 6, (some .int))
theorem ml_L_50 : MLv "ComplaintDeskLaw" 50 M_X6_waits 1 := ⟨⟨uw_at 1026 (by decide +kernel) rfl, uw_at 1029 (by decide +kernel) rfl, uw_at 50 (by decide +kernel) rfl, ⟨by decide +kernel, by decide +kernel⟩, by decide +kernel, by decide⟩, uw_at 1027 (by decide +kernel) rfl, uw_at 1028 (by decide +kernel) rfl⟩
abbrev M_X6_template : gM := (yX6_template, cX6_template, 3, (some .int))
theorem ml_L_53 : MLv "ComplaintDeskLaw" 53 M_X6_template 1 := ⟨⟨uw_at 1033 (by decide +kernel) rfl, uw_at 1036 (by decide +kernel) rfl, uw_at 50 (by decide +kernel) rfl, ⟨by decide +kernel, by decide +kernel⟩, by decide +kernel, by decide⟩, uw_at 1034 (by decide +kernel) rfl, uw_at 1035 (by decide +kernel) rfl⟩
abbrev M_X6_counts : gM := (yX6_counts, cX6_counts, 4, (some .int))
theorem ml_L_56 : MLv "ComplaintDeskLaw" 56 M_X6_counts 2 := ⟨⟨uw_at 1041 (by decide +kernel) rfl, uw_at 1044 (by decide +kernel) rfl, uw_at 50 (by decide +kernel) rfl, ⟨by decide +kernel, by decide +kernel⟩, by decide +kernel, by decide⟩, uw_at 1042 (by decide +kernel) rfl, uw_at 1043 (by decide +kernel) rfl⟩
abbrev M_X6_wave : gM := (yX6_wave, cX6_wave, 3, (some .int))
theorem ml_L_59 : MLv "ComplaintDeskLaw" 59 M_X6_wave 1 := ⟨⟨uw_at 1060 (by decide +kernel) rfl, uw_at 1063 (by decide +kernel) rfl, uw_at 50 (by decide +kernel) rfl, ⟨by decide +kernel, by decide +kernel⟩, by decide +kernel, by decide⟩, uw_at 1061 (by decide +kernel) rfl, uw_at 1062 (by decide +kernel) rfl⟩
abbrev M_X6_init : gM := (yX6_init, cX6_init, 1, none)
theorem ml_L_62 : MLi "ComplaintDeskLaw" 62 M_X6_init 0 := ⟨⟨uw_at 83 (by decide +kernel) rfl, uw_at 85 (by decide +kernel) rfl, uw_at 50 (by decide +kernel) rfl, ⟨by decide +kernel, by decide +kernel⟩, by decide +kernel, by decide⟩, uw_at 84 (by decide +kernel) rfl, rfl⟩
abbrev M_X7_init : gM := (yX7_init, cX7_init, 1, none)
theorem ml_L_65 : MLi "ComplaintDeskLaw" 65 M_X7_init 0 := ⟨⟨uw_at 1070 (by decide +kernel) rfl, uw_at 1072 (by decide +kernel) rfl, uw_at 56 (by decide +kernel) rfl, ⟨by decide +kernel, by decide +kernel⟩, by decide +kernel, by decide⟩, uw_at 1071 (by decide +kernel) rfl, rfl⟩
abbrev M_X6_feed : gM := (yX6_feed, cX6_feed, 6, (some .int))
theorem ml_L_66 : MLv "ComplaintDeskLaw" 66 M_X6_feed 5 := ⟨⟨uw_at 208 (by decide +kernel) rfl, uw_at 211 (by decide +kernel) rfl, uw_at 50 (by decide +kernel) rfl, ⟨by decide +kernel, by decide +kernel⟩, by decide +kernel, by decide⟩, uw_at 209 (by decide +kernel) rfl, uw_at 210 (by decide +kernel) rfl⟩
abbrev M_X7_feed : gM := (yX7_feed, cX7_feed, 7, (some .int))
theorem ml_L_70 : MLv "ComplaintDeskLaw" 70 M_X7_feed 5 := ⟨⟨uw_at 1185 (by decide +kernel) rfl, uw_at 1188 (by decide +kernel) rfl, uw_at 56 (by decide +kernel) rfl, ⟨by decide +kernel, by decide +kernel⟩, by decide +kernel, by decide⟩, uw_at 1186 (by decide +kernel) rfl, uw_at 1187 (by decide +kernel) rfl⟩
abbrev M_X6_end : gM := (yX6_end, cX6_end, 2, (some .boolean))
theorem ml_L_71 : MLv "ComplaintDeskLaw" 71 M_X6_end 1 := ⟨⟨uw_at 220 (by decide +kernel) rfl, uw_at 223 (by decide +kernel) rfl, uw_at 50 (by decide +kernel) rfl, ⟨by decide +kernel, by decide +kernel⟩, by decide +kernel, by decide⟩, uw_at 221 (by decide +kernel) rfl, uw_at 222 (by decide +kernel) rfl⟩
abbrev M_X7_end : gM := (yX7_end, cX7_end, 2, (some .boolean))
theorem ml_L_75 : MLv "ComplaintDeskLaw" 75 M_X7_end 1 := ⟨⟨uw_at 1189 (by decide +kernel) rfl, uw_at 1192 (by decide +kernel) rfl, uw_at 56 (by decide +kernel) rfl, ⟨by decide +kernel, by decide +kernel⟩, by decide +kernel, by decide⟩, uw_at 1190 (by decide +kernel) rfl, uw_at 1191 (by decide +kernel) rfl⟩
abbrev M_X7_cause : gM := (yX7_cause, cX7_cause, 5, (some .int))
theorem ml_L_81 : MLv "ComplaintDeskLaw" 81 M_X7_cause 4 := ⟨⟨uw_at 1197 (by decide +kernel) rfl, uw_at 1200 (by decide +kernel) rfl, uw_at 56 (by decide +kernel) rfl, ⟨by decide +kernel, by decide +kernel⟩, by decide +kernel, by decide⟩, uw_at 1198 (by decide +kernel) rfl, uw_at 1199 (by decide +kernel) rfl⟩
abbrev M_X7_thrown : gM := (yX7_thrown, cX7_thrown, 1, (some .int))
theorem ml_L_82 : MLv "ComplaintDeskLaw" 82 M_X7_thrown 0 := ⟨⟨uw_at 1181 (by decide +kernel) rfl, uw_at 1184 (by decide +kernel) rfl, uw_at 56 (by decide +kernel) rfl, ⟨by decide +kernel, by decide +kernel⟩, by decide +kernel, by decide⟩, uw_at 1182 (by decide +kernel) rfl, uw_at 1183 (by decide +kernel) rfl⟩
abbrev M_X7_pattern : gM := (yX7_pattern, cX7_pattern, 6, (some .int))
theorem ml_L_89 : MLv "ComplaintDeskLaw" 89 M_X7_pattern 1 := ⟨⟨uw_at 1277 (by decide +kernel) rfl, uw_at 1280 (by decide +kernel) rfl, uw_at 56 (by decide +kernel) rfl, ⟨by decide +kernel, by decide +kernel⟩, by decide +kernel, by decide⟩, uw_at 1278 (by decide +kernel) rfl, uw_at 1279 (by decide +kernel) rfl⟩
abbrev M_X7_letter : gM := (yX7_letter, cX7_letter, 5, (some .int))
theorem ml_L_92 : MLv "ComplaintDeskLaw" 92 M_X7_letter 1 := ⟨⟨uw_at 1305 (by decide +kernel) rfl, uw_at 1308 (by decide +kernel) rfl, uw_at 56 (by decide +kernel) rfl, ⟨by decide +kernel, by decide +kernel⟩, by decide +kernel, by decide⟩, uw_at 1306 (by decide +kernel) rfl, uw_at 1307 (by decide +kernel) rfl⟩
abbrev M_X6_fault : gM := (yX6_fault, cX6_fault, 1, (some .int))
theorem ml_L_93 : MLv "ComplaintDeskLaw" 93 M_X6_fault 0 := ⟨⟨uw_at 228 (by decide +kernel) rfl, uw_at 231 (by decide +kernel) rfl, uw_at 50 (by decide +kernel) rfl, ⟨by decide +kernel, by decide +kernel⟩, by decide +kernel, by decide⟩, uw_at 229 (by decide +kernel) rfl, uw_at 230 (by decide +kernel) rfl⟩
abbrev M_X7_fault : gM := (yX7_fault, cX7_fault, 1, (some .int))
theorem ml_L_96 : MLv "ComplaintDeskLaw" 96 M_X7_fault 0 := ⟨⟨uw_at 1193 (by decide +kernel) rfl, uw_at 1196 (by decide +kernel) rfl, uw_at 56 (by decide +kernel) rfl, ⟨by decide +kernel, by decide +kernel⟩, by decide +kernel, by decide⟩, uw_at 1194 (by decide +kernel) rfl, uw_at 1195 (by decide +kernel) rfl⟩
abbrev M_X7_hours : gM := (yX7_hours, cX7_hours, 3, none)
theorem ml_L_100 : MLv "ComplaintDeskLaw" 100 M_X7_hours 2 := ⟨⟨uw_at 1313 (by decide +kernel) rfl, uw_at 1316 (by decide +kernel) rfl, uw_at 56 (by decide +kernel) rfl, ⟨by decide +kernel, by decide +kernel⟩, by decide +kernel, by decide⟩, uw_at 1314 (by decide +kernel) rfl, uw_at 1315 (by decide +kernel) rfl⟩
abbrev M_X7_days : gM := (yX7_days, cX7_days, 6, (some .int))
theorem ml_L_103 : MLv "ComplaintDeskLaw" 103 M_X7_days 1 := ⟨⟨uw_at 1317 (by decide +kernel) rfl, uw_at 1320 (by decide +kernel) rfl, uw_at 56 (by decide +kernel) rfl, ⟨by decide +kernel, by decide +kernel⟩, by decide +kernel, by decide⟩, uw_at 1318 (by decide +kernel) rfl, uw_at 1319 (by decide +kernel) rfl⟩
abbrev M_X7_answer : gM := (yX7_answer, cX7_answer, 3, (some .boolean))
theorem ml_L_107 : MLv "ComplaintDeskLaw" 107 M_X7_answer 2 := ⟨⟨uw_at 1333 (by decide +kernel) rfl, uw_at 1336 (by decide +kernel) rfl, uw_at 56 (by decide +kernel) rfl, ⟨by decide +kernel, by decide +kernel⟩, by decide +kernel, by decide⟩, uw_at 1334 (by decide +kernel) rfl, uw_at 1335 (by decide +kernel) rfl⟩
abbrev M_X7_point : gM := (yX7_point, cX7_point, 8, (some .int))
theorem ml_L_111 : MLv "ComplaintDeskLaw" 111 M_X7_point 3 := ⟨⟨uw_at 1353 (by decide +kernel) rfl, uw_at 1356 (by decide +kernel) rfl, uw_at 56 (by decide +kernel) rfl, ⟨by decide +kernel, by decide +kernel⟩, by decide +kernel, by decide⟩, uw_at 1354 (by decide +kernel) rfl, uw_at 1355 (by decide +kernel) rfl⟩
abbrev M_X7_look : gM := (yX7_look, cX7_look, 3, (some .int))
theorem ml_L_114 : MLv "ComplaintDeskLaw" 114 M_X7_look 2 := ⟨⟨uw_at 1357 (by decide +kernel) rfl, uw_at 1360 (by decide +kernel) rfl, uw_at 56 (by decide +kernel) rfl, ⟨by decide +kernel, by decide +kernel⟩, by decide +kernel, by decide⟩, uw_at 1358 (by decide +kernel) rfl, uw_at 1359 (by decide +kernel) rfl⟩
abbrev M_X7_late : gM := (yX7_late, cX7_late, 6, (some .int))
theorem ml_L_117 : MLv "ComplaintDeskLaw" 117 M_X7_late 1 := ⟨⟨uw_at 1349 (by decide +kernel) rfl, uw_at 1352 (by decide +kernel) rfl, uw_at 56 (by decide +kernel) rfl, ⟨by decide +kernel, by decide +kernel⟩, by decide +kernel, by decide⟩, uw_at 1350 (by decide +kernel) rfl, uw_at 1351 (by decide +kernel) rfl⟩
abbrev M_X7_waits : gM := (yX7_waits, cX7_waits, 4, (some .int))
theorem ml_L_120 : MLv "ComplaintDeskLaw" 120 M_X7_waits 1 := ⟨⟨uw_at 1345 (by decide +kernel) rfl, uw_at 1348 (by decide +kernel) rfl, uw_at 56 (by decide +kernel) rfl, ⟨by decide +kernel, by decide +kernel⟩, by decide +kernel, by decide⟩, uw_at 1346 (by decide +kernel) rfl, uw_at 1347 (by decide +kernel) rfl⟩
abbrev M_X7_template : gM := (yX7_template, cX7_template, 2, (some .int))
theorem ml_L_123 : MLv "ComplaintDeskLaw" 123 M_X7_template 1 := ⟨⟨uw_at 1370 (by decide +kernel) rfl, uw_at 1373 (by decide +kernel) rfl, uw_at 56 (by decide +kernel) rfl, ⟨by decide +kernel, by decide +kernel⟩, by decide +kernel, by decide⟩, uw_at 1371 (by decide +kernel) rfl, uw_at 1372 (by decide +kernel) rfl⟩
abbrev M_X7_counts : gM := (yX7_counts, cX7_counts, 3, (some .int))
theorem ml_L_126 : MLv "ComplaintDeskLaw" 126 M_X7_counts 2 := ⟨⟨uw_at 1374 (by decide +kernel) rfl, uw_at 1377 (by decide +kernel) rfl, uw_at 56 (by decide +kernel) rfl, ⟨by decide +kernel, by decide +kernel⟩, by decide +kernel, by decide⟩, uw_at 1375 (by decide +kernel) rfl, uw_at 1376 (by decide +kernel) rfl⟩
abbrev M_X7_wave : gM := (yX7_wave, cX7_wave, 5, (some .int))
theorem ml_L_129 : MLv "ComplaintDeskLaw" 129 M_X7_wave 1 := ⟨⟨uw_at 1386 (by decide +kernel) rfl, uw_at 1389 (by decide +kernel) rfl, uw_at 56 (by decide +kernel) rfl, ⟨by decide +kernel, by decide +kernel⟩, by decide +kernel, by decide⟩, uw_at 1387 (by decide +kernel) rfl, uw_at 1388 (by decide +kernel) rfl⟩
abbrev M_X6_count : gM := (yX6_count, cX6_count, 2, (some .int))
theorem ml_L_130 : MLv "ComplaintDeskLaw" 130 M_X6_count 1 := ⟨⟨uw_at 232 (by decide +kernel) rfl, uw_at 235 (by decide +kernel) rfl, uw_at 50 (by decide +kernel) rfl, ⟨by decide +kernel, by decide +kernel⟩, by decide +kernel, by decide⟩, uw_at 233 (by decide +kernel) rfl, uw_at 234 (by decide +kernel) rfl⟩
abbrev M_X7_count : gM := (yX7_count, cX7_count, 7, (some .int))
theorem ml_L_133 : MLv "ComplaintDeskLaw" 133 M_X7_count 1 := ⟨⟨uw_at 1390 (by decide +kernel) rfl, uw_at 1393 (by decide +kernel) rfl, uw_at 56 (by decide +kernel) rfl, ⟨by decide +kernel, by decide +kernel⟩, by decide +kernel, by decide⟩, uw_at 1391 (by decide +kernel) rfl, uw_at 1392 (by decide +kernel) rfl⟩
abbrev M_X7_in : gM := (yX7_in, cX7_in, 3, (some .boolean))
theorem ml_X7_97 : MLs "ComplaintDeskModel" 97 M_X7_in 3 := ⟨⟨uw_at 1209 (by decide +kernel) rfl, uw_at 1211 (by decide +kernel) rfl, uw_at 56 (by decide +kernel) rfl, ⟨by decide +kernel, by decide +kernel⟩, by decide +kernel, by decide⟩, uw_at 1210 (by decide +kernel) rfl⟩
abbrev M_X7_noLetter : gM := (yX7_noLetter, cX7_noLetter, 2, (some .boolean))
theorem ml_X7_104 : MLv "ComplaintDeskModel" 104 M_X7_noLetter 1 := ⟨⟨uw_at 1341 (by decide +kernel) rfl, uw_at 1344 (by decide +kernel) rfl, uw_at 56 (by decide +kernel) rfl, ⟨by decide +kernel, by decide +kernel⟩, by decide +kernel, by decide⟩, uw_at 1343 (by decide +kernel) rfl, uw_at 44 (by decide +kernel) rfl⟩
abbrev M_X7_isAt : gM := (yX7_isAt, cX7_isAt, 3, (some .boolean))
theorem ml_X7_117 : MLv "ComplaintDeskModel" 117 M_X7_isAt 2 := ⟨⟨uw_at 1235 (by decide +kernel) rfl, uw_at 1238 (by decide +kernel) rfl, uw_at 56 (by decide +kernel) rfl, ⟨by decide +kernel, by decide +kernel⟩, by decide +kernel, by decide⟩, uw_at 1237 (by decide +kernel) rfl, uw_at 29 (by decide +kernel) rfl⟩
abbrev M_X7_blanks : gM := (yX7_blanks, cX7_blanks, 1, none)
theorem ml_X7_124 : MLv "ComplaintDeskModel" 124 M_X7_blanks 0 := ⟨⟨uw_at 1231 (by decide +kernel) rfl, uw_at 1234 (by decide +kernel) rfl, uw_at 56 (by decide +kernel) rfl, ⟨by decide +kernel, by decide +kernel⟩, by decide +kernel, by decide⟩, uw_at 1233 (by decide +kernel) rfl, uw_at 28 (by decide +kernel) rfl⟩
abbrev M_J0_length_8abf5 : gM := (yJ0_length_8abf5, cJ0_length_8abf5, 1, (some .int))
theorem ml_X7_127 : MLv "ComplaintDeskModel" 127 M_J0_length_8abf5 0 := ⟨⟨uw_at 1244 (by decide +kernel) rfl, uw_at 780 (by decide +kernel) rfl, uw_at 71 (by decide +kernel) rfl, ⟨by decide +kernel, by decide +kernel⟩, by decide +kernel, by decide⟩, uw_at 778 (by decide +kernel) rfl, uw_at 779 (by decide +kernel) rfl⟩
abbrev M_J0_charAt_5068e : gM := (yJ0_charAt_5068e, cJ0_charAt_5068e, 2, (some .char))
theorem ml_X7_133 : MLv "ComplaintDeskModel" 133 M_J0_charAt_5068e 1 := ⟨⟨uw_at 1245 (by decide +kernel) rfl, uw_at 1248 (by decide +kernel) rfl, uw_at 71 (by decide +kernel) rfl, ⟨by decide +kernel, by decide +kernel⟩, by decide +kernel, by decide⟩, uw_at 1246 (by decide +kernel) rfl, uw_at 1247 (by decide +kernel) rfl⟩
abbrev M_X7_isWord : gM := (yX7_isWord, cX7_isWord, 4, (some .boolean))
theorem ml_X7_139 : MLv "ComplaintDeskModel" 139 M_X7_isWord 1 := ⟨⟨uw_at 1240 (by decide +kernel) rfl, uw_at 1243 (by decide +kernel) rfl, uw_at 56 (by decide +kernel) rfl, ⟨by decide +kernel, by decide +kernel⟩, by decide +kernel, by decide⟩, uw_at 1242 (by decide +kernel) rfl, uw_at 30 (by decide +kernel) rfl⟩
abbrev M_X7_word : gM := (yX7_word, cX7_word, 1, none)
theorem ml_X7_147 : MLv "ComplaintDeskModel" 147 M_X7_word 0 := ⟨⟨uw_at 1227 (by decide +kernel) rfl, uw_at 1230 (by decide +kernel) rfl, uw_at 56 (by decide +kernel) rfl, ⟨by decide +kernel, by decide +kernel⟩, by decide +kernel, by decide⟩, uw_at 1229 (by decide +kernel) rfl, uw_at 27 (by decide +kernel) rfl⟩
abbrev M_X7_isSign : gM := (yX7_isSign, cX7_isSign, 1, (some .boolean))
theorem ml_X7_150 : MLv "ComplaintDeskModel" 150 M_X7_isSign 0 := ⟨⟨uw_at 1267 (by decide +kernel) rfl, uw_at 1270 (by decide +kernel) rfl, uw_at 56 (by decide +kernel) rfl, ⟨by decide +kernel, by decide +kernel⟩, by decide +kernel, by decide⟩, uw_at 1269 (by decide +kernel) rfl, uw_at 31 (by decide +kernel) rfl⟩
abbrev M_X7_readPattern : gM := (yX7_readPattern, cX7_readPattern, 6, (some .boolean))
theorem ml_X7_154 : MLv "ComplaintDeskModel" 154 M_X7_readPattern 0 := ⟨⟨uw_at 1223 (by decide +kernel) rfl, uw_at 1226 (by decide +kernel) rfl, uw_at 56 (by decide +kernel) rfl, ⟨by decide +kernel, by decide +kernel⟩, by decide +kernel, by decide⟩, uw_at 1225 (by decide +kernel) rfl, uw_at 26 (by decide +kernel) rfl⟩
abbrev M_X7_isSame : gM := (yX7_isSame, cX7_isSame, 6, (some .boolean))
theorem ml_X7_157 : MLv "ComplaintDeskModel" 157 M_X7_isSame 3 := ⟨⟨uw_at 1297 (by decide +kernel) rfl, uw_at 1300 (by decide +kernel) rfl, uw_at 56 (by decide +kernel) rfl, ⟨by decide +kernel, by decide +kernel⟩, by decide +kernel, by decide⟩, uw_at 1299 (by decide +kernel) rfl, uw_at 37 (by decide +kernel) rfl⟩
abbrev M_X7_hasWord : gM := (yX7_hasWord, cX7_hasWord, 6, (some .boolean))
theorem ml_X7_160 : MLv "ComplaintDeskModel" 160 M_X7_hasWord 3 := ⟨⟨uw_at 1293 (by decide +kernel) rfl, uw_at 1296 (by decide +kernel) rfl, uw_at 56 (by decide +kernel) rfl, ⟨by decide +kernel, by decide +kernel⟩, by decide +kernel, by decide⟩, uw_at 1295 (by decide +kernel) rfl, uw_at 36 (by decide +kernel) rfl⟩
abbrev M_X7_fits : gM := (yX7_fits, cX7_fits, 6, (some .boolean))
theorem ml_X7_163 : MLv "ComplaintDeskModel" 163 M_X7_fits 3 := ⟨⟨uw_at 1289 (by decide +kernel) rfl, uw_at 1292 (by decide +kernel) rfl, uw_at 56 (by decide +kernel) rfl, ⟨by decide +kernel, by decide +kernel⟩, by decide +kernel, by decide⟩, uw_at 1291 (by decide +kernel) rfl, uw_at 35 (by decide +kernel) rfl⟩
abbrev M_X7_below : gM := (yX7_below, cX7_below, 5, (some .int))
theorem ml_X7_166 : MLv "ComplaintDeskModel" 166 M_X7_below 3 := ⟨⟨uw_at 1285 (by decide +kernel) rfl, uw_at 1288 (by decide +kernel) rfl, uw_at 56 (by decide +kernel) rfl, ⟨by decide +kernel, by decide +kernel⟩, by decide +kernel, by decide⟩, uw_at 1287 (by decide +kernel) rfl, uw_at 34 (by decide +kernel) rfl⟩
abbrev M_X7_uses : gM := (yX7_uses, cX7_uses, 1, none)
theorem ml_X7_170 : MLv "ComplaintDeskModel" 170 M_X7_uses 0 := ⟨⟨uw_at 1201 (by decide +kernel) rfl, uw_at 1204 (by decide +kernel) rfl, uw_at 56 (by decide +kernel) rfl, ⟨by decide +kernel, by decide +kernel⟩, by decide +kernel, by decide⟩, uw_at 1203 (by decide +kernel) rfl, uw_at 22 (by decide +kernel) rfl⟩
abbrev M_X7_noCause : gM := (yX7_noCause, cX7_noCause, 2, (some .boolean))
theorem ml_X7_173 : MLv "ComplaintDeskModel" 173 M_X7_noCause 1 := ⟨⟨uw_at 1205 (by decide +kernel) rfl, uw_at 1208 (by decide +kernel) rfl, uw_at 56 (by decide +kernel) rfl, ⟨by decide +kernel, by decide +kernel⟩, by decide +kernel, by decide⟩, uw_at 1207 (by decide +kernel) rfl, uw_at 23 (by decide +kernel) rfl⟩
abbrev M_X7_noDesk : gM := (yX7_noDesk, cX7_noDesk, 1, (some .boolean))
theorem ml_X7_176 : MLs "ComplaintDeskModel" 176 M_X7_noDesk 1 := ⟨⟨uw_at 1212 (by decide +kernel) rfl, uw_at 1214 (by decide +kernel) rfl, uw_at 56 (by decide +kernel) rfl, ⟨by decide +kernel, by decide +kernel⟩, by decide +kernel, by decide⟩, uw_at 1213 (by decide +kernel) rfl⟩
abbrev M_X7_throwsIf : gM := (yX7_throwsIf, cX7_throwsIf, 3, (some .boolean))
theorem ml_X7_179 : MLv "ComplaintDeskModel" 179 M_X7_throwsIf 2 := ⟨⟨uw_at 1215 (by decide +kernel) rfl, uw_at 1218 (by decide +kernel) rfl, uw_at 56 (by decide +kernel) rfl, ⟨by decide +kernel, by decide +kernel⟩, by decide +kernel, by decide⟩, uw_at 1217 (by decide +kernel) rfl, uw_at 24 (by decide +kernel) rfl⟩
abbrev M_X7_readsPattern : gM := (yX7_readsPattern, cX7_readsPattern, 2, (some .boolean))
theorem ml_X7_183 : MLv "ComplaintDeskModel" 183 M_X7_readsPattern 0 := ⟨⟨uw_at 1219 (by decide +kernel) rfl, uw_at 1222 (by decide +kernel) rfl, uw_at 56 (by decide +kernel) rfl, ⟨by decide +kernel, by decide +kernel⟩, by decide +kernel, by decide⟩, uw_at 1221 (by decide +kernel) rfl, uw_at 25 (by decide +kernel) rfl⟩
abbrev M_X7_setsPattern : gM := (yX7_setsPattern, cX7_setsPattern, 4, none)
theorem ml_X7_186 : MLv "ComplaintDeskModel" 186 M_X7_setsPattern 1 := ⟨⟨uw_at 1273 (by decide +kernel) rfl, uw_at 1276 (by decide +kernel) rfl, uw_at 56 (by decide +kernel) rfl, ⟨by decide +kernel, by decide +kernel⟩, by decide +kernel, by decide⟩, uw_at 1275 (by decide +kernel) rfl, uw_at 32 (by decide +kernel) rfl⟩
abbrev M_X7_sorted : gM := (yX7_sorted, cX7_sorted, 5, (some .int))
theorem ml_X7_190 : MLv "ComplaintDeskModel" 190 M_X7_sorted 2 := ⟨⟨uw_at 1281 (by decide +kernel) rfl, uw_at 1284 (by decide +kernel) rfl, uw_at 56 (by decide +kernel) rfl, ⟨by decide +kernel, by decide +kernel⟩, by decide +kernel, by decide⟩, uw_at 1283 (by decide +kernel) rfl, uw_at 33 (by decide +kernel) rfl⟩
abbrev M_X7_puts : gM := (yX7_puts, cX7_puts, 4, none)
theorem ml_X7_194 : MLv "ComplaintDeskModel" 194 M_X7_puts 3 := ⟨⟨uw_at 1301 (by decide +kernel) rfl, uw_at 1304 (by decide +kernel) rfl, uw_at 56 (by decide +kernel) rfl, ⟨by decide +kernel, by decide +kernel⟩, by decide +kernel, by decide⟩, uw_at 1303 (by decide +kernel) rfl, uw_at 38 (by decide +kernel) rfl⟩
abbrev M_X7_readLetter : gM := (yX7_readLetter, cX7_readLetter, 4, (some .boolean))
theorem ml_X7_198 : MLv "ComplaintDeskModel" 198 M_X7_readLetter 0 := ⟨⟨uw_at 1309 (by decide +kernel) rfl, uw_at 1312 (by decide +kernel) rfl, uw_at 56 (by decide +kernel) rfl, ⟨by decide +kernel, by decide +kernel⟩, by decide +kernel, by decide⟩, uw_at 1311 (by decide +kernel) rfl, uw_at 39 (by decide +kernel) rfl⟩
abbrev M_X7_isOf : gM := (yX7_isOf, cX7_isOf, 3, (some .boolean))
theorem ml_X7_204 : MLv "ComplaintDeskModel" 204 M_X7_isOf 2 := ⟨⟨uw_at 1325 (by decide +kernel) rfl, uw_at 1328 (by decide +kernel) rfl, uw_at 56 (by decide +kernel) rfl, ⟨by decide +kernel, by decide +kernel⟩, by decide +kernel, by decide⟩, uw_at 1327 (by decide +kernel) rfl, uw_at 41 (by decide +kernel) rfl⟩
abbrev M_X7_isAhead : gM := (yX7_isAhead, cX7_isAhead, 5, (some .boolean))
theorem ml_X7_207 : MLv "ComplaintDeskModel" 207 M_X7_isAhead 2 := ⟨⟨uw_at 1329 (by decide +kernel) rfl, uw_at 1332 (by decide +kernel) rfl, uw_at 56 (by decide +kernel) rfl, ⟨by decide +kernel, by decide +kernel⟩, by decide +kernel, by decide⟩, uw_at 1331 (by decide +kernel) rfl, uw_at 42 (by decide +kernel) rfl⟩
abbrev M_X7_next : gM := (yX7_next, cX7_next, 4, (some .int))
theorem ml_X7_210 : MLv "ComplaintDeskModel" 210 M_X7_next 1 := ⟨⟨uw_at 1321 (by decide +kernel) rfl, uw_at 1324 (by decide +kernel) rfl, uw_at 56 (by decide +kernel) rfl, ⟨by decide +kernel, by decide +kernel⟩, by decide +kernel, by decide⟩, uw_at 1323 (by decide +kernel) rfl, uw_at 40 (by decide +kernel) rfl⟩
abbrev M_X7_noPoint : gM := (yX7_noPoint, cX7_noPoint, 3, (some .boolean))
theorem ml_X7_214 : MLv "ComplaintDeskModel" 214 M_X7_noPoint 2 := ⟨⟨uw_at 1337 (by decide +kernel) rfl, uw_at 1340 (by decide +kernel) rfl, uw_at 56 (by decide +kernel) rfl, ⟨by decide +kernel, by decide +kernel⟩, by decide +kernel, by decide⟩, uw_at 1339 (by decide +kernel) rfl, uw_at 43 (by decide +kernel) rfl⟩
theorem ml_X7_220 : MLs "ComplaintDeskModel" 220 M_J6_bitCount_0f7a4 1 := ⟨⟨uw_at 1369 (by decide +kernel) rfl, uw_at 999 (by decide +kernel) rfl, uw_at 79 (by decide +kernel) rfl, ⟨by decide +kernel, by decide +kernel⟩, by decide +kernel, by decide⟩, uw_at 998 (by decide +kernel) rfl⟩
abbrev M_X7_isClosed : gM := (yX7_isClosed, cX7_isClosed, 4, (some .boolean))
theorem ml_X7_225 : MLv "ComplaintDeskModel" 225 M_X7_isClosed 1 := ⟨⟨uw_at 1361 (by decide +kernel) rfl, uw_at 1364 (by decide +kernel) rfl, uw_at 56 (by decide +kernel) rfl, ⟨by decide +kernel, by decide +kernel⟩, by decide +kernel, by decide⟩, uw_at 1363 (by decide +kernel) rfl, uw_at 45 (by decide +kernel) rfl⟩
abbrev M_X7_theAnswer : gM := (yX7_theAnswer, cX7_theAnswer, 7, (some .int))
theorem ml_X7_228 : MLv "ComplaintDeskModel" 228 M_X7_theAnswer 1 := ⟨⟨uw_at 1365 (by decide +kernel) rfl, uw_at 1368 (by decide +kernel) rfl, uw_at 56 (by decide +kernel) rfl, ⟨by decide +kernel, by decide +kernel⟩, by decide +kernel, by decide⟩, uw_at 1367 (by decide +kernel) rfl, uw_at 46 (by decide +kernel) rfl⟩
abbrev M_X7_isUnder : gM := (yX7_isUnder, cX7_isUnder, 4, (some .boolean))
theorem ml_X7_231 : MLv "ComplaintDeskModel" 231 M_X7_isUnder 2 := ⟨⟨uw_at 1382 (by decide +kernel) rfl, uw_at 1385 (by decide +kernel) rfl, uw_at 56 (by decide +kernel) rfl, ⟨by decide +kernel, by decide +kernel⟩, by decide +kernel, by decide⟩, uw_at 1384 (by decide +kernel) rfl, uw_at 48 (by decide +kernel) rfl⟩
abbrev M_X7_counted : gM := (yX7_counted, cX7_counted, 4, none)
theorem ml_X7_234 : MLv "ComplaintDeskModel" 234 M_X7_counted 1 := ⟨⟨uw_at 1378 (by decide +kernel) rfl, uw_at 1381 (by decide +kernel) rfl, uw_at 56 (by decide +kernel) rfl, ⟨by decide +kernel, by decide +kernel⟩, by decide +kernel, by decide⟩, uw_at 1380 (by decide +kernel) rfl, uw_at 47 (by decide +kernel) rfl⟩
abbrev M_J7_copyOfRange_39247 : gM := (yJ7_copyOfRange_39247, cJ7_copyOfRange_39247, 3, (some (.array .byte)))
theorem ml_STR_54 : MLs "java/lang/String" 54 M_J7_copyOfRange_39247 3 := ⟨⟨uw_at 847 (by decide +kernel) rfl, uw_at 849 (by decide +kernel) rfl, uw_at 65 (by decide +kernel) rfl, ⟨by decide +kernel, by decide +kernel⟩, by decide +kernel, by decide⟩, uw_at 848 (by decide +kernel) rfl⟩
abbrev M_J1_inflate_0e8fd : gM := (yJ1_inflate_0e8fd, cJ1_inflate_0e8fd, 5, none)
theorem ml_STR_106 : MLs "java/lang/String" 106 M_J1_inflate_0e8fd 5 := ⟨⟨uw_at 819 (by decide +kernel) rfl, uw_at 801 (by decide +kernel) rfl, uw_at 72 (by decide +kernel) rfl, ⟨by decide +kernel, by decide +kernel⟩, by decide +kernel, by decide⟩, uw_at 800 (by decide +kernel) rfl⟩
abbrev M_J0_coder_7d493 : gM := (yJ0_coder_7d493, cJ0_coder_7d493, 1, (some .byte))
theorem ml_STR_335 : MLv "java/lang/String" 335 M_J0_coder_7d493 0 := ⟨⟨uw_at 781 (by decide +kernel) rfl, uw_at 784 (by decide +kernel) rfl, uw_at 71 (by decide +kernel) rfl, ⟨by decide +kernel, by decide +kernel⟩, by decide +kernel, by decide⟩, uw_at 782 (by decide +kernel) rfl, uw_at 783 (by decide +kernel) rfl⟩
abbrev M_J0_init_db425 : gM := (yJ0_init_db425, cJ0_init_db425, 5, none)
theorem ml_STR_489 : MLi "java/lang/String" 489 M_J0_init_db425 2 := ⟨⟨uw_at 829 (by decide +kernel) rfl, uw_at 831 (by decide +kernel) rfl, uw_at 71 (by decide +kernel) rfl, ⟨by decide +kernel, by decide +kernel⟩, by decide +kernel, by decide⟩, uw_at 830 (by decide +kernel) rfl, rfl⟩
abbrev M_J0_isLatin1_aae02 : gM := (yJ0_isLatin1_aae02, cJ0_isLatin1_aae02, 1, (some .boolean))
theorem ml_STR_492 : MLv "java/lang/String" 492 M_J0_isLatin1_aae02 0 := ⟨⟨uw_at 1249 (by decide +kernel) rfl, uw_at 1252 (by decide +kernel) rfl, uw_at 71 (by decide +kernel) rfl, ⟨by decide +kernel, by decide +kernel⟩, by decide +kernel, by decide⟩, uw_at 1250 (by decide +kernel) rfl, uw_at 1251 (by decide +kernel) rfl⟩
abbrev M_J1_charAt_3b067 : gM := (yJ1_charAt_3b067, cJ1_charAt_3b067, 2, (some .char))
theorem ml_STR_495 : MLs "java/lang/String" 495 M_J1_charAt_3b067 2 := ⟨⟨uw_at 1253 (by decide +kernel) rfl, uw_at 1255 (by decide +kernel) rfl, uw_at 72 (by decide +kernel) rfl, ⟨by decide +kernel, by decide +kernel⟩, by decide +kernel, by decide⟩, uw_at 1254 (by decide +kernel) rfl⟩
abbrev M_J3_checkIndex_8e157 : gM := (yJ3_checkIndex_8e157, cJ3_checkIndex_8e157, 3, (some .int))
theorem ml_STR_1059 : MLs "java/lang/String" 1059 M_J3_checkIndex_8e157 3 := ⟨⟨uw_at 1259 (by decide +kernel) rfl, uw_at 253 (by decide +kernel) rfl, uw_at 62 (by decide +kernel) rfl, ⟨by decide +kernel, by decide +kernel⟩, by decide +kernel, by decide⟩, uw_at 252 (by decide +kernel) rfl⟩
abbrev M_J3_checkFromToIndex_8c36e : gM := (yJ3_checkFromToIndex_8c36e, cJ3_checkFromToIndex_8c36e, 4, (some .int))
theorem ml_STR_1062 : MLs "java/lang/String" 1062 M_J3_checkFromToIndex_8c36e 4 := ⟨⟨uw_at 745 (by decide +kernel) rfl, uw_at 747 (by decide +kernel) rfl, uw_at 62 (by decide +kernel) rfl, ⟨by decide +kernel, by decide +kernel⟩, by decide +kernel, by decide⟩, uw_at 746 (by decide +kernel) rfl⟩
abbrev M_J3_checkFromIndexSize_8c36e : gM := (yJ3_checkFromIndexSize_8c36e, cJ3_checkFromIndexSize_8c36e, 4, (some .int))
theorem ml_STR_1065 : MLs "java/lang/String" 1065 M_J3_checkFromIndexSize_8c36e 4 := ⟨⟨uw_at 811 (by decide +kernel) rfl, uw_at 813 (by decide +kernel) rfl, uw_at 62 (by decide +kernel) rfl, ⟨by decide +kernel, by decide +kernel⟩, by decide +kernel, by decide⟩, uw_at 812 (by decide +kernel) rfl⟩
abbrev M_J0_checkIndex_df160 : gM := (yJ0_checkIndex_df160, cJ0_checkIndex_df160, 2, none)
theorem ml_SL1_9 : MLs "java/lang/StringLatin1" 9 M_J0_checkIndex_df160 2 := ⟨⟨uw_at 1256 (by decide +kernel) rfl, uw_at 1258 (by decide +kernel) rfl, uw_at 71 (by decide +kernel) rfl, ⟨by decide +kernel, by decide +kernel⟩, by decide +kernel, by decide⟩, uw_at 1257 (by decide +kernel) rfl⟩
abbrev M_Jxa1e45_init_da8c8 : gM := (yJxa1e45_init_da8c8, cJxa1e45_init_da8c8, 1, none)
theorem ml_ABL_1 : MLi "java/util/AbstractList" 1 M_Jxa1e45_init_da8c8 0 := ⟨⟨uw_at 156 (by decide +kernel) rfl, uw_at 158 (by decide +kernel) rfl, uw_at 53 (by decide +kernel) rfl, ⟨by decide +kernel, by decide +kernel⟩, by decide +kernel, by decide⟩, uw_at 157 (by decide +kernel) rfl, rfl⟩
abbrev M_Jxc12de_init_da8c8 : gM := (yJxc12de_init_da8c8, cJxc12de_init_da8c8, 1, none)
theorem ml_AL_1 : MLi "java/util/ArrayList" 1 M_Jxc12de_init_da8c8 0 := ⟨⟨uw_at 153 (by decide +kernel) rfl, uw_at 155 (by decide +kernel) rfl, uw_at 54 (by decide +kernel) rfl, ⟨by decide +kernel, by decide +kernel⟩, by decide +kernel, by decide⟩, uw_at 154 (by decide +kernel) rfl, rfl⟩
abbrev M_J7_copyOf_1904c : gM := (yJ7_copyOf_1904c, cJ7_copyOf_1904c, 2, (some (.array (.object "java/lang/Object"))))
theorem ml_AL_66 : MLs "java/util/ArrayList" 66 M_J7_copyOf_1904c 2 := ⟨⟨uw_at 545 (by decide +kernel) rfl, uw_at 547 (by decide +kernel) rfl, uw_at 65 (by decide +kernel) rfl, ⟨by decide +kernel, by decide +kernel⟩, by decide +kernel, by decide⟩, uw_at 546 (by decide +kernel) rfl⟩
abbrev M_Jx4a65c_grow_92f84 : gM := (yJx4a65c_grow_92f84, cJx4a65c_grow_92f84, 4, (some (.array (.object "java/lang/Object"))))
theorem ml_AL_69 : MLv "java/util/ArrayList" 69 M_Jx4a65c_grow_92f84 1 := ⟨⟨uw_at 531 (by decide +kernel) rfl, uw_at 534 (by decide +kernel) rfl, uw_at 55 (by decide +kernel) rfl, ⟨by decide +kernel, by decide +kernel⟩, by decide +kernel, by decide⟩, uw_at 533 (by decide +kernel) rfl, uw_at 9 (by decide +kernel) rfl⟩
abbrev M_J8_newLength_cabcc : gM := (yJ8_newLength_cabcc, cJ8_newLength_cabcc, 4, (some .int))
theorem ml_AL_73 : MLs "java/util/ArrayList" 73 M_J8_newLength_cabcc 3 := ⟨⟨uw_at 535 (by decide +kernel) rfl, uw_at 537 (by decide +kernel) rfl, uw_at 70 (by decide +kernel) rfl, ⟨by decide +kernel, by decide +kernel⟩, by decide +kernel, by decide⟩, uw_at 536 (by decide +kernel) rfl⟩
abbrev M_J9_max_7cf53 : gM := (yJ9_max_7cf53, cJ9_max_7cf53, 2, (some .int))
theorem ml_AL_79 : MLs "java/util/ArrayList" 79 M_J9_max_7cf53 2 := ⟨⟨uw_at 573 (by decide +kernel) rfl, uw_at 540 (by decide +kernel) rfl, uw_at 66 (by decide +kernel) rfl, ⟨by decide +kernel, by decide +kernel⟩, by decide +kernel, by decide⟩, uw_at 539 (by decide +kernel) rfl⟩
abbrev M_J15_checkIndex_7cf53 : gM := (yJ15_checkIndex_7cf53, cJ15_checkIndex_7cf53, 2, (some .int))
theorem ml_AL_118 : MLs "java/util/ArrayList" 118 M_J15_checkIndex_7cf53 2 := ⟨⟨uw_at 248 (by decide +kernel) rfl, uw_at 250 (by decide +kernel) rfl, uw_at 61 (by decide +kernel) rfl, ⟨by decide +kernel, by decide +kernel⟩, by decide +kernel, by decide⟩, uw_at 249 (by decide +kernel) rfl⟩
abbrev M_Jx4a65c_elementData_915e3 : gM := (yJx4a65c_elementData_915e3, cJx4a65c_elementData_915e3, 2, (some (.object "java/lang/Object")))
theorem ml_AL_123 : MLv "java/util/ArrayList" 123 M_Jx4a65c_elementData_915e3 1 := ⟨⟨uw_at 254 (by decide +kernel) rfl, uw_at 257 (by decide +kernel) rfl, uw_at 55 (by decide +kernel) rfl, ⟨by decide +kernel, by decide +kernel⟩, by decide +kernel, by decide⟩, uw_at 255 (by decide +kernel) rfl, uw_at 256 (by decide +kernel) rfl⟩
abbrev M_Jx4a65c_grow_d5877 : gM := (yJx4a65c_grow_d5877, cJx4a65c_grow_d5877, 1, (some (.array (.object "java/lang/Object"))))
theorem ml_AL_129 : MLv "java/util/ArrayList" 129 M_Jx4a65c_grow_d5877 0 := ⟨⟨uw_at 527 (by decide +kernel) rfl, uw_at 530 (by decide +kernel) rfl, uw_at 55 (by decide +kernel) rfl, ⟨by decide +kernel, by decide +kernel⟩, by decide +kernel, by decide⟩, uw_at 529 (by decide +kernel) rfl, uw_at 8 (by decide +kernel) rfl⟩
abbrev M_Jx4a65c_add_72be8 : gM := (yJx4a65c_add_72be8, cJx4a65c_add_72be8, 4, none)
theorem ml_AL_131 : MLv "java/util/ArrayList" 131 M_Jx4a65c_add_72be8 3 := ⟨⟨uw_at 523 (by decide +kernel) rfl, uw_at 526 (by decide +kernel) rfl, uw_at 55 (by decide +kernel) rfl, ⟨by decide +kernel, by decide +kernel⟩, by decide +kernel, by decide⟩, uw_at 525 (by decide +kernel) rfl, uw_at 7 (by decide +kernel) rfl⟩
abbrev M_J7_copyOf_6403c : gM := (yJ7_copyOf_6403c, cJ7_copyOf_6403c, 4, (some (.array (.object "java/lang/Object"))))
theorem ml_AR_300 : MLs "java/util/Arrays" 300 M_J7_copyOf_6403c 3 := ⟨⟨uw_at 567 (by decide +kernel) rfl, uw_at 569 (by decide +kernel) rfl, uw_at 65 (by decide +kernel) rfl, ⟨by decide +kernel, by decide +kernel⟩, by decide +kernel, by decide⟩, uw_at 568 (by decide +kernel) rfl⟩
theorem ml_AR_304 : MLs "java/util/Arrays" 304 M_J9_min_7cf53 2 := ⟨⟨uw_at 448 (by decide +kernel) rfl, uw_at 450 (by decide +kernel) rfl, uw_at 66 (by decide +kernel) rfl, ⟨by decide +kernel, by decide +kernel⟩, by decide +kernel, by decide⟩, uw_at 449 (by decide +kernel) rfl⟩
abbrev M_J7_copyOfRangeByte_39247 : gM := (yJ7_copyOfRangeByte_39247, cJ7_copyOfRangeByte_39247, 5, (some (.array .byte)))
theorem ml_AR_339 : MLs "java/util/Arrays" 339 M_J7_copyOfRangeByte_39247 3 := ⟨⟨uw_at 850 (by decide +kernel) rfl, uw_at 852 (by decide +kernel) rfl, uw_at 65 (by decide +kernel) rfl, ⟨by decide +kernel, by decide +kernel⟩, by decide +kernel, by decide⟩, uw_at 851 (by decide +kernel) rfl⟩
abbrev M_J7_checkLength_df160 : gM := (yJ7_checkLength_df160, cJ7_checkLength_df160, 2, none)
theorem ml_AR_343 : MLs "java/util/Arrays" 343 M_J7_checkLength_df160 2 := ⟨⟨uw_at 656 (by decide +kernel) rfl, uw_at 658 (by decide +kernel) rfl, uw_at 65 (by decide +kernel) rfl, ⟨by decide +kernel, by decide +kernel⟩, by decide +kernel, by decide⟩, uw_at 657 (by decide +kernel) rfl⟩
abbrev M_J7_copyOfRangeLong_23910 : gM := (yJ7_copyOfRangeLong_23910, cJ7_copyOfRangeLong_23910, 5, (some (.array .long)))
theorem ml_AR_355 : MLs "java/util/Arrays" 355 M_J7_copyOfRangeLong_23910 3 := ⟨⟨uw_at 653 (by decide +kernel) rfl, uw_at 655 (by decide +kernel) rfl, uw_at 65 (by decide +kernel) rfl, ⟨by decide +kernel, by decide +kernel⟩, by decide +kernel, by decide⟩, uw_at 654 (by decide +kernel) rfl⟩
theorem ml_OBJ_105 : MLs "java/util/Objects" 105 M_J3_checkIndex_8e157 3 := ⟨⟨uw_at 251 (by decide +kernel) rfl, uw_at 253 (by decide +kernel) rfl, uw_at 62 (by decide +kernel) rfl, ⟨by decide +kernel, by decide +kernel⟩, by decide +kernel, by decide⟩, uw_at 252 (by decide +kernel) rfl⟩
theorem ml_AS_194 : MLs "jdk/internal/util/ArraysSupport" 194 M_J9_max_7cf53 2 := ⟨⟨uw_at 538 (by decide +kernel) rfl, uw_at 540 (by decide +kernel) rfl, uw_at 66 (by decide +kernel) rfl, ⟨by decide +kernel, by decide +kernel⟩, by decide +kernel, by decide⟩, uw_at 539 (by decide +kernel) rfl⟩
abbrev M_J8_hugeLength_7cf53 : gM := (yJ8_hugeLength_7cf53, cJ8_hugeLength_7cf53, 3, (some .int))
theorem ml_AS_201 : MLs "jdk/internal/util/ArraysSupport" 201 M_J8_hugeLength_7cf53 2 := ⟨⟨uw_at 542 (by decide +kernel) rfl, uw_at 544 (by decide +kernel) rfl, uw_at 70 (by decide +kernel) rfl, ⟨by decide +kernel, by decide +kernel⟩, by decide +kernel, by decide⟩, uw_at 543 (by decide +kernel) rfl⟩
theorem ki_m1 : Int32.ofInt (-1) = (-1 : Int32) := by decide +kernel
theorem ki_0 : Int32.ofInt (0) = (0 : Int32) := by decide +kernel
theorem ki_1 : Int32.ofInt (1) = (1 : Int32) := by decide +kernel
theorem ki_2 : Int32.ofInt (2) = (2 : Int32) := by decide +kernel
theorem ki_3 : Int32.ofInt (3) = (3 : Int32) := by decide +kernel
theorem ki_4 : Int32.ofInt (4) = (4 : Int32) := by decide +kernel
theorem ki_5 : Int32.ofInt (5) = (5 : Int32) := by decide +kernel
theorem kb_m100 : (Int8.ofInt (-100)).toInt32 = (-100 : Int32) := by decide +kernel
theorem kb_m10 : (Int8.ofInt (-10)).toInt32 = (-10 : Int32) := by decide +kernel
theorem kb_m9 : (Int8.ofInt (-9)).toInt32 = (-9 : Int32) := by decide +kernel
theorem kb_6 : (Int8.ofInt (6)).toInt32 = (6 : Int32) := by decide +kernel
theorem kb_8 : (Int8.ofInt (8)).toInt32 = (8 : Int32) := by decide +kernel
theorem kb_10 : (Int8.ofInt (10)).toInt32 = (10 : Int32) := by decide +kernel
theorem kb_11 : (Int8.ofInt (11)).toInt32 = (11 : Int32) := by decide +kernel
theorem kb_12 : (Int8.ofInt (12)).toInt32 = (12 : Int32) := by decide +kernel
theorem kb_13 : (Int8.ofInt (13)).toInt32 = (13 : Int32) := by decide +kernel
theorem kb_16 : (Int8.ofInt (16)).toInt32 = (16 : Int32) := by decide +kernel
theorem kb_20 : (Int8.ofInt (20)).toInt32 = (20 : Int32) := by decide +kernel
theorem kb_24 : (Int8.ofInt (24)).toInt32 = (24 : Int32) := by decide +kernel
theorem kb_31 : (Int8.ofInt (31)).toInt32 = (31 : Int32) := by decide +kernel
theorem kb_32 : (Int8.ofInt (32)).toInt32 = (32 : Int32) := by decide +kernel
theorem kb_45 : (Int8.ofInt (45)).toInt32 = (45 : Int32) := by decide +kernel
theorem kb_46 : (Int8.ofInt (46)).toInt32 = (46 : Int32) := by decide +kernel
theorem kb_49 : (Int8.ofInt (49)).toInt32 = (49 : Int32) := by decide +kernel
theorem kb_50 : (Int8.ofInt (50)).toInt32 = (50 : Int32) := by decide +kernel
theorem kb_60 : (Int8.ofInt (60)).toInt32 = (60 : Int32) := by decide +kernel
theorem kb_61 : (Int8.ofInt (61)).toInt32 = (61 : Int32) := by decide +kernel
theorem kb_63 : (Int8.ofInt (63)).toInt32 = (63 : Int32) := by decide +kernel
theorem kb_80 : (Int8.ofInt (80)).toInt32 = (80 : Int32) := by decide +kernel
theorem kb_81 : (Int8.ofInt (81)).toInt32 = (81 : Int32) := by decide +kernel
theorem kb_97 : (Int8.ofInt (97)).toInt32 = (97 : Int32) := by decide +kernel
theorem kb_100 : (Int8.ofInt (100)).toInt32 = (100 : Int32) := by decide +kernel
theorem kb_108 : (Int8.ofInt (108)).toInt32 = (108 : Int32) := by decide +kernel
theorem kb_110 : (Int8.ofInt (110)).toInt32 = (110 : Int32) := by decide +kernel
theorem kb_117 : (Int8.ofInt (117)).toInt32 = (117 : Int32) := by decide +kernel
theorem kb_122 : (Int8.ofInt (122)).toInt32 = (122 : Int32) := by decide +kernel
theorem ks_144 : (Int16.ofInt (144)).toInt32 = (144 : Int32) := by decide +kernel
theorem ks_156 : (Int16.ofInt (156)).toInt32 = (156 : Int32) := by decide +kernel
theorem ks_255 : (Int16.ofInt (255)).toInt32 = (255 : Int32) := by decide +kernel
theorem ks_380 : (Int16.ofInt (380)).toInt32 = (380 : Int32) := by decide +kernel
theorem ks_400 : (Int16.ofInt (400)).toInt32 = (400 : Int32) := by decide +kernel
theorem ks_401 : (Int16.ofInt (401)).toInt32 = (401 : Int32) := by decide +kernel
theorem ks_460 : (Int16.ofInt (460)).toInt32 = (460 : Int32) := by decide +kernel
theorem ks_480 : (Int16.ofInt (480)).toInt32 = (480 : Int32) := by decide +kernel
theorem ks_1872 : (Int16.ofInt (1872)).toInt32 = (1872 : Int32) := by decide +kernel
theorem ks_4800 : (Int16.ofInt (4800)).toInt32 = (4800 : Int32) := by decide +kernel
theorem ks_4860 : (Int16.ofInt (4860)).toInt32 = (4860 : Int32) := by decide +kernel
theorem ks_32400 : (Int16.ofInt (32400)).toInt32 = (32400 : Int32) := by decide +kernel
theorem ins_6 : Cond.instantiable "ComplaintDesk" 11 ∈ uw := uw_at 82 (by decide +kernel) rfl
theorem ins_4 : Cond.instantiable "ComplaintDesk$Tape" 5 ∈ uw := uw_at 90 (by decide +kernel) rfl
theorem ins_5 : Cond.instantiable "ComplaintDesk$Words" 5 ∈ uw := uw_at 118 (by decide +kernel) rfl
theorem ins_8 : Cond.instantiable "java/util/ArrayList" 3 ∈ uw := uw_at 149 (by decide +kernel) rfl
theorem ins_2 : Cond.instantiable "ComplaintDesk$Pattern" 3 ∈ uw := uw_at 433 (by decide +kernel) rfl
theorem ins_0 : Cond.instantiable "ComplaintDesk$Cause" 6 ∈ uw := uw_at 488 (by decide +kernel) rfl
theorem ins_1 : Cond.instantiable "ComplaintDesk$Letter" 3 ∈ uw := uw_at 625 (by decide +kernel) rfl
theorem ins_3 : Cond.instantiable "ComplaintDesk$Point" 4 ∈ uw := uw_at 645 (by decide +kernel) rfl
theorem ins_7 : Cond.instantiable "ComplaintDeskModel" 35 ∈ uw := uw_at 1069 (by decide +kernel) rfl
theorem ini_6 : Cond.initialized "ComplaintDesk" ∈ uw := uw_at 50 (by decide +kernel) rfl
theorem ini_4 : Cond.initialized "ComplaintDesk$Tape" ∈ uw := uw_at 51 (by decide +kernel) rfl
theorem ini_5 : Cond.initialized "ComplaintDesk$Words" ∈ uw := uw_at 52 (by decide +kernel) rfl
theorem ini_8 : Cond.initialized "java/util/ArrayList" ∈ uw := uw_at 55 (by decide +kernel) rfl
theorem ini_7 : Cond.initialized "ComplaintDeskModel" ∈ uw := uw_at 56 (by decide +kernel) rfl
theorem ini_2 : Cond.initialized "ComplaintDesk$Pattern" ∈ uw := uw_at 64 (by decide +kernel) rfl
theorem ini_0 : Cond.initialized "ComplaintDesk$Cause" ∈ uw := uw_at 69 (by decide +kernel) rfl
theorem ini_1 : Cond.initialized "ComplaintDesk$Letter" ∈ uw := uw_at 74 (by decide +kernel) rfl
theorem ini_3 : Cond.initialized "ComplaintDesk$Point" ∈ uw := uw_at 75 (by decide +kernel) rfl
theorem cl_X6_7 : Cond.classLink "ComplaintDesk" 7 "ComplaintDesk$Tape" ∈ uw := uw_at 89 (by decide +kernel) rfl
theorem cl_X6_16 : Cond.classLink "ComplaintDesk" 16 "ComplaintDesk$Words" ∈ uw := uw_at 117 (by decide +kernel) rfl
theorem cl_X6_30 : Cond.classLink "ComplaintDesk" 30 "java/util/ArrayList" ∈ uw := uw_at 148 (by decide +kernel) rfl
theorem cl_X6_81 : Cond.classLink "ComplaintDesk" 81 "java/lang/IllegalArgumentException" ∈ uw := uw_at 370 (by decide +kernel) rfl
theorem cl_X6_96 : Cond.classLink "ComplaintDesk" 96 "java/lang/UnsupportedOperationException" ∈ uw := uw_at 472 (by decide +kernel) rfl
theorem cl_X6_101 : Cond.classLink "ComplaintDesk" 101 "ComplaintDesk$Cause" ∈ uw := uw_at 365 (by decide +kernel) rfl
theorem cl_X6_120 : Cond.classLink "ComplaintDesk" 120 "ComplaintDesk$Letter" ∈ uw := uw_at 258 (by decide +kernel) rfl
theorem cl_X6_135 : Cond.classLink "ComplaintDesk" 135 "ComplaintDesk$Point" ∈ uw := uw_at 274 (by decide +kernel) rfl
theorem cl_X6_198 : Cond.classLink "ComplaintDesk" 198 "java/util/NoSuchElementException" ∈ uw := uw_at 966 (by decide +kernel) rfl
theorem cl_X6_246 : Cond.classLink "ComplaintDesk" 246 "java/lang/IndexOutOfBoundsException" ∈ uw := uw_at 297 (by decide +kernel) rfl
theorem cl_X6_256 : Cond.classLink "ComplaintDesk" 256 "ComplaintDesk$Pattern" ∈ uw := uw_at 432 (by decide +kernel) rfl
theorem cl_X1_9 : Cond.classLink "ComplaintDesk$Letter" 9 "java/util/ArrayList" ∈ uw := uw_at 630 (by decide +kernel) rfl
theorem cl_X1_68 : Cond.classLink "ComplaintDesk$Letter" 68 "java/lang/IndexOutOfBoundsException" ∈ uw := uw_at 951 (by decide +kernel) rfl
theorem cl_X1_79 : Cond.classLink "ComplaintDesk$Letter" 79 "ComplaintDesk$Point" ∈ uw := uw_at 265 (by decide +kernel) rfl
theorem cl_L_8 : Cond.classLink "ComplaintDeskLaw" 8 "ComplaintDesk" ∈ uw := uw_at 81 (by decide +kernel) rfl
theorem cl_L_13 : Cond.classLink "ComplaintDeskLaw" 13 "java/lang/IndexOutOfBoundsException" ∈ uw := uw_at 282 (by decide +kernel) rfl
theorem cl_L_15 : Cond.classLink "ComplaintDeskLaw" 15 "java/lang/IllegalArgumentException" ∈ uw := uw_at 283 (by decide +kernel) rfl
theorem cl_L_17 : Cond.classLink "ComplaintDeskLaw" 17 "java/lang/UnsupportedOperationException" ∈ uw := uw_at 284 (by decide +kernel) rfl
theorem cl_L_41 : Cond.classLink "ComplaintDeskLaw" 41 "java/util/NoSuchElementException" ∈ uw := uw_at 957 (by decide +kernel) rfl
theorem cl_L_63 : Cond.classLink "ComplaintDeskLaw" 63 "ComplaintDeskModel" ∈ uw := uw_at 1068 (by decide +kernel) rfl
theorem cl_AL_7 : Cond.classLink "java/util/ArrayList" 7 "java/lang/Object" ∈ uw := uw_at 574 (by decide +kernel) rfl
theorem cl_AR_2 : Cond.classLink "java/util/Arrays" 2 "java/lang/Object" ∈ uw := uw_at 572 (by decide +kernel) rfl
theorem cl_AR_43 : Cond.classLink "java/util/Arrays" 43 "java/lang/IllegalArgumentException" ∈ uw := uw_at 659 (by decide +kernel) rfl
theorem cl_AR_45 : Cond.classLink "java/util/Arrays" 45 "java/lang/StringBuilder" ∈ uw := uw_at 660 (by decide +kernel) rfl
theorem cl_AR_110 : Cond.classLink "java/util/Arrays" 110 "[Ljava/lang/Object;" ∈ uw := uw_at 570 (by decide +kernel) rfl
theorem cl_AR_311 : Cond.classLink "java/util/Arrays" 311 "[B" ∈ uw := uw_at 718 (by decide +kernel) rfl
theorem cl_AR_317 : Cond.classLink "java/util/Arrays" 317 "[I" ∈ uw := uw_at 461 (by decide +kernel) rfl
theorem cl_AR_320 : Cond.classLink "java/util/Arrays" 320 "[J" ∈ uw := uw_at 447 (by decide +kernel) rfl
theorem con_INT_265 : Cond.constant "java/lang/Integer" 265 (1431655765) ∈ uw := uw_at 1000 (by decide +kernel) rfl
theorem con_INT_266 : Cond.constant "java/lang/Integer" 266 (858993459) ∈ uw := uw_at 1001 (by decide +kernel) rfl
theorem con_INT_267 : Cond.constant "java/lang/Integer" 267 (252645135) ∈ uw := uw_at 1002 (by decide +kernel) rfl
theorem con_AS_200 : Cond.constant "jdk/internal/util/ArraysSupport" 200 (2147483639) ∈ uw := uw_at 541 (by decide +kernel) rfl
theorem con_X2_58 : Cond.constantLong "ComplaintDesk$Pattern" 58 (1476) ∈ uw := uw_at 421 (by decide +kernel) rfl
theorem con_X2_60 : Cond.constantLong "ComplaintDesk$Pattern" 60 (498) ∈ uw := uw_at 422 (by decide +kernel) rfl
theorem con_X2_65 : Cond.constantLong "ComplaintDesk$Pattern" 65 (14836) ∈ uw := uw_at 423 (by decide +kernel) rfl
theorem arc_byte : Cond.arrayClass .byte ∈ uw := uw_at 116 (by decide +kernel) rfl
theorem arc_long : Cond.arrayClass .long ∈ uw := uw_at 146 (by decide +kernel) rfl
theorem arc_int : Cond.arrayClass .int ∈ uw := uw_at 147 (by decide +kernel) rfl
theorem arc_boolean : Cond.arrayClass .boolean ∈ uw := uw_at 1180 (by decide +kernel) rfl
