set_option maxRecDepth 20000 in
theorem ar_int : Cond.arrayClass .int ∈ lw_gd := (gd_t1 54 rfl rfl)
set_option maxRecDepth 20000 in
theorem ar_byte : Cond.arrayClass .byte ∈ lw_gd := (gd_t2 88 rfl rfl)
set_option maxRecDepth 20000 in
theorem ar_boolean : Cond.arrayClass .boolean ∈ lw_gd := (gd_t2 87 rfl rfl)
set_option maxRecDepth 20000 in
theorem ar_long : Cond.arrayClass .long ∈ lw_gd := (gd_t2 171 rfl rfl)
set_option maxRecDepth 20000 in
theorem ob_im : Cond.instanceMethod Lib.objectInit ∈ lw_gd := (gd_t1 28 rfl rfl)
set_option maxRecDepth 20000 in
theorem ob_co : Cond.code Lib.objectInit ⟨#[0xb1]⟩ 1 none ∈ lw_gd := (gd_t1 29 rfl rfl)
set_option maxRecDepth 20000 in
theorem ol_X8_3 : Cond.methodLink RX8 3 Lib.objectInit ∈ lw_gd := (gd_t1 71 rfl rfl)
set_option maxRecDepth 20000 in
theorem ff_X8_9 : FF RX8 9 8 0 (.array .int) := ⟨RX8, TX8, 2, tyX8, rfl, hinX8, by decide, (gd_t1 72 rfl rfl), tyX8_ok, nmX8, rfl, rfl, rfl⟩
set_option maxRecDepth 20000 in
theorem ol_X2_5 : Cond.methodLink RX2 5 Lib.objectInit ∈ lw_gd := (gd_t1 65 rfl rfl)
set_option maxRecDepth 20000 in
theorem ff_X2_11 : FF RX2 11 2 2 (.array .int) := ⟨RX2, TX2, 10, tyX2, rfl, hinX2, by decide, (gd_t1 93 rfl rfl), tyX2_ok, nmX2, rfl, rfl, rfl⟩
set_option maxRecDepth 20000 in
theorem ff_X2_17 : FF RX2 17 2 3 (.array .int) := ⟨RX2, TX2, 10, tyX2, rfl, hinX2, by decide, (gd_t1 97 rfl rfl), tyX2_ok, nmX2, rfl, rfl, rfl⟩
set_option maxRecDepth 20000 in
theorem ff_X2_20 : FF RX2 20 2 4 (.array .int) := ⟨RX2, TX2, 10, tyX2, rfl, hinX2, by decide, (gd_t1 101 rfl rfl), tyX2_ok, nmX2, rfl, rfl, rfl⟩
set_option maxRecDepth 20000 in
theorem ff_X2_23 : FF RX2 23 2 5 (.array .int) := ⟨RX2, TX2, 10, tyX2, rfl, hinX2, by decide, (gd_t1 105 rfl rfl), tyX2_ok, nmX2, rfl, rfl, rfl⟩
set_option maxRecDepth 20000 in
theorem ff_X2_26 : FF RX2 26 2 6 (.array .int) := ⟨RX2, TX2, 10, tyX2, rfl, hinX2, by decide, (gd_t1 108 rfl rfl), tyX2_ok, nmX2, rfl, rfl, rfl⟩
set_option maxRecDepth 20000 in
theorem ff_X2_29 : FF RX2 29 2 7 (.array .int) := ⟨RX2, TX2, 10, tyX2, rfl, hinX2, by decide, (gd_t1 111 rfl rfl), tyX2_ok, nmX2, rfl, rfl, rfl⟩
set_option maxRecDepth 20000 in
theorem ff_X2_32 : FF RX2 32 2 8 (.array .int) := ⟨RX2, TX2, 10, tyX2, rfl, hinX2, by decide, (gd_t1 114 rfl rfl), tyX2_ok, nmX2, rfl, rfl, rfl⟩
set_option maxRecDepth 20000 in
theorem nw_X2_1 : NW RX2 1 8 2 [(3, 0, 0), (0, 0, 0)] := ⟨RX8, TX8, tyX8, rfl, hinX8, tyX8_ok, (gd_t1 66 rfl rfl), (gd_t1 67 rfl rfl), (gd_t1 6 rfl rfl), (fun j hj => by
  match j, hj with
  | 0, _ => rfl
  | 1, _ => rfl
  | j + 2, hj => exact absurd hj (by omega)), fun _ => rfl⟩
set_option maxRecDepth 20000 in
theorem ff_X2_38 : FF RX2 38 2 9 (.object "CarriedWorks$Sums") := ⟨RX2, TX2, 10, tyX2, rfl, hinX2, by decide, (gd_t1 118 rfl rfl), tyX2_ok, nmX2, rfl, rfl, rfl⟩
set_option maxRecDepth 20000 in
theorem ol_X1_7 : Cond.methodLink RX1 7 Lib.objectInit ∈ lw_gd := (gd_t1 148 rfl rfl)
set_option maxRecDepth 20000 in
theorem ff_X1_13 : FF RX1 13 1 4 (.array .int) := ⟨RX1, TX1, 10, tyX1, rfl, hinX1, by decide, (gd_t1 162 rfl rfl), tyX1_ok, nmX1, rfl, rfl, rfl⟩
set_option maxRecDepth 20000 in
theorem ff_X1_17 : FF RX1 17 1 5 (.array .int) := ⟨RX1, TX1, 10, tyX1, rfl, hinX1, by decide, (gd_t1 163 rfl rfl), tyX1_ok, nmX1, rfl, rfl, rfl⟩
set_option maxRecDepth 20000 in
theorem ff_X1_20 : FF RX1 20 1 6 (.array .int) := ⟨RX1, TX1, 10, tyX1, rfl, hinX1, by decide, (gd_t1 164 rfl rfl), tyX1_ok, nmX1, rfl, rfl, rfl⟩
set_option maxRecDepth 20000 in
theorem ff_X1_23 : FF RX1 23 1 7 (.array .int) := ⟨RX1, TX1, 10, tyX1, rfl, hinX1, by decide, (gd_t1 166 rfl rfl), tyX1_ok, nmX1, rfl, rfl, rfl⟩
set_option maxRecDepth 20000 in
theorem ff_X1_26 : FF RX1 26 1 8 (.array .int) := ⟨RX1, TX1, 10, tyX1, rfl, hinX1, by decide, (gd_t1 168 rfl rfl), tyX1_ok, nmX1, rfl, rfl, rfl⟩
set_option maxRecDepth 20000 in
theorem nw_X1_1 : NW RX1 1 8 2 [(3, 0, 0), (0, 0, 0)] := ⟨RX8, TX8, tyX8, rfl, hinX8, tyX8_ok, (gd_t1 149 rfl rfl), (gd_t1 67 rfl rfl), (gd_t1 6 rfl rfl), (fun j hj => by
  match j, hj with
  | 0, _ => rfl
  | 1, _ => rfl
  | j + 2, hj => exact absurd hj (by omega)), fun _ => rfl⟩
set_option maxRecDepth 20000 in
theorem ff_X1_32 : FF RX1 32 1 9 (.object "CarriedWorks$Sums") := ⟨RX1, TX1, 10, tyX1, rfl, hinX1, by decide, (gd_t1 169 rfl rfl), tyX1_ok, nmX1, rfl, rfl, rfl⟩
set_option maxRecDepth 20000 in
theorem ol_X4_3 : Cond.methodLink RX4 3 Lib.objectInit ∈ lw_gd := (gd_t1 59 rfl rfl)
set_option maxRecDepth 20000 in
theorem nw_X4_18 : NW RX4 18 2 10 [(0, 0, 0), (0, 0, 0), (3, 0, 0), (3, 0, 0), (3, 0, 0), (3, 0, 0), (3, 0, 0), (3, 0, 0), (3, 0, 0), (3, 0, 0)] := ⟨RX2, TX2, tyX2, rfl, hinX2, tyX2_ok, (gd_t1 60 rfl rfl), (gd_t1 61 rfl rfl), (gd_t1 5 rfl rfl), (fun j hj => by
  match j, hj with
  | 0, _ => rfl
  | 1, _ => rfl
  | 2, _ => rfl
  | 3, _ => rfl
  | 4, _ => rfl
  | 5, _ => rfl
  | 6, _ => rfl
  | 7, _ => rfl
  | 8, _ => rfl
  | 9, _ => rfl
  | j + 10, hj => exact absurd hj (by omega)), fun _ => rfl⟩
set_option maxRecDepth 20000 in
theorem nw_X4_25 : NW RX4 25 1 10 [(0, 0, 0), (0, 0, 0), (0, 0, 0), (0, 0, 0), (3, 0, 0), (3, 0, 0), (3, 0, 0), (3, 0, 0), (3, 0, 0), (3, 0, 0)] := ⟨RX1, TX1, tyX1, rfl, hinX1, tyX1_ok, (gd_t1 143 rfl rfl), (gd_t1 144 rfl rfl), (gd_t1 7 rfl rfl), (fun j hj => by
  match j, hj with
  | 0, _ => rfl
  | 1, _ => rfl
  | 2, _ => rfl
  | 3, _ => rfl
  | 4, _ => rfl
  | 5, _ => rfl
  | 6, _ => rfl
  | 7, _ => rfl
  | 8, _ => rfl
  | 9, _ => rfl
  | j + 10, hj => exact absurd hj (by omega)), fun _ => rfl⟩
set_option maxRecDepth 20000 in
theorem ff_X4_35 : FF RX4 35 4 6 (.array .int) := ⟨RX4, TX4, 9, tyX4, rfl, hinX4, by decide, (gd_t1 214 rfl rfl), tyX4_ok, nmX4, rfl, rfl, rfl⟩
set_option maxRecDepth 20000 in
theorem ff_X4_39 : FF RX4 39 4 7 (.array .int) := ⟨RX4, TX4, 9, tyX4, rfl, hinX4, by decide, (gd_t1 216 rfl rfl), tyX4_ok, nmX4, rfl, rfl, rfl⟩
set_option maxRecDepth 20000 in
theorem ff_X4_42 : FF RX4 42 4 8 (.array .int) := ⟨RX4, TX4, 9, tyX4, rfl, hinX4, by decide, (gd_t1 217 rfl rfl), tyX4_ok, nmX4, rfl, rfl, rfl⟩
set_option maxRecDepth 20000 in
theorem ol_X6_3 : Cond.methodLink RX6 3 Lib.objectInit ∈ lw_gd := (gd_t1 43 rfl rfl)
set_option maxRecDepth 20000 in
theorem ff_X6_11 : FF RX6 11 6 0 (.array .int) := ⟨RX6, TX6, 3, tyX6, rfl, hinX6, by decide, (gd_t1 44 rfl rfl), tyX6_ok, nmX6, rfl, rfl, rfl⟩
set_option maxRecDepth 20000 in
theorem ol_X10_3 : Cond.methodLink RX10 3 Lib.objectInit ∈ lw_gd := (gd_t1 35 rfl rfl)
set_option maxRecDepth 20000 in
theorem cl_X10_9 : Cond.classLink RX10 9 "CarriedWorks$Program" ∈ lw_gd := (gd_t1 36 rfl rfl)
set_option maxRecDepth 20000 in
theorem ff_X10_11 : FF RX10 11 10 0 (.array (.object "CarriedWorks$Program")) := ⟨RX10, TX10, 8, tyX10, rfl, hinX10, by decide, (gd_t2 0 rfl rfl), tyX10_ok, nmX10, rfl, rfl, rfl⟩
set_option maxRecDepth 20000 in
theorem ff_X10_17 : FF RX10 17 10 1 (.array .int) := ⟨RX10, TX10, 8, tyX10, rfl, hinX10, by decide, (gd_t2 2 rfl rfl), tyX10_ok, nmX10, rfl, rfl, rfl⟩
set_option maxRecDepth 20000 in
theorem ff_X10_21 : FF RX10 21 10 2 (.array .int) := ⟨RX10, TX10, 8, tyX10, rfl, hinX10, by decide, (gd_t2 4 rfl rfl), tyX10_ok, nmX10, rfl, rfl, rfl⟩
set_option maxRecDepth 20000 in
theorem ff_X10_24 : FF RX10 24 10 3 (.array .int) := ⟨RX10, TX10, 8, tyX10, rfl, hinX10, by decide, (gd_t2 7 rfl rfl), tyX10_ok, nmX10, rfl, rfl, rfl⟩
set_option maxRecDepth 20000 in
theorem nw_X10_27 : NW RX10 27 6 3 [(3, 0, 0), (0, 0, 0), (0, 0, 0)] := ⟨RX6, TX6, tyX6, rfl, hinX6, tyX6_ok, (gd_t1 38 rfl rfl), (gd_t1 39 rfl rfl), (gd_t1 3 rfl rfl), (fun j hj => by
  match j, hj with
  | 0, _ => rfl
  | 1, _ => rfl
  | 2, _ => rfl
  | j + 3, hj => exact absurd hj (by omega)), fun _ => rfl⟩
set_option maxRecDepth 20000 in
theorem ff_X10_30 : FF RX10 30 10 7 (.object "CarriedWorks$Rows") := ⟨RX10, TX10, 8, tyX10, rfl, hinX10, by decide, (gd_t2 15 rfl rfl), tyX10_ok, nmX10, rfl, rfl, rfl⟩
set_option maxRecDepth 20000 in
theorem nw_X10_9 : NW RX10 9 4 9 [(0, 0, 0), (0, 0, 0), (4, 0, 0), (4, 0, 0), (0, 0, 0), (0, 0, 0), (3, 0, 0), (3, 0, 0), (3, 0, 0)] := ⟨RX4, TX4, tyX4, rfl, hinX4, tyX4_ok, (gd_t1 36 rfl rfl), (gd_t1 55 rfl rfl), (gd_t1 4 rfl rfl), (fun j hj => by
  match j, hj with
  | 0, _ => rfl
  | 1, _ => rfl
  | 2, _ => rfl
  | 3, _ => rfl
  | 4, _ => rfl
  | 5, _ => rfl
  | 6, _ => rfl
  | 7, _ => rfl
  | 8, _ => rfl
  | j + 9, hj => exact absurd hj (by omega)), fun _ => rfl⟩
set_option maxRecDepth 20000 in
theorem ol_X5_3 : Cond.methodLink RX5 3 Lib.objectInit ∈ lw_gd := (gd_t2 40 rfl rfl)
set_option maxRecDepth 20000 in
theorem ff_X5_11 : FF RX5 11 5 0 (.array .byte) := ⟨RX5, TX5, 12, tyX5, rfl, hinX5, by decide, (gd_t2 45 rfl rfl), tyX5_ok, nmX5, rfl, rfl, rfl⟩
set_option maxRecDepth 20000 in
theorem ff_X5_15 : FF RX5 15 5 2 (.array .int) := ⟨RX5, TX5, 12, tyX5, rfl, hinX5, by decide, (gd_t2 48 rfl rfl), tyX5_ok, nmX5, rfl, rfl, rfl⟩
set_option maxRecDepth 20000 in
theorem ff_X5_19 : FF RX5 19 5 3 (.array .int) := ⟨RX5, TX5, 12, tyX5, rfl, hinX5, by decide, (gd_t2 49 rfl rfl), tyX5_ok, nmX5, rfl, rfl, rfl⟩
set_option maxRecDepth 20000 in
theorem ff_X5_22 : FF RX5 22 5 4 (.array .int) := ⟨RX5, TX5, 12, tyX5, rfl, hinX5, by decide, (gd_t2 50 rfl rfl), tyX5_ok, nmX5, rfl, rfl, rfl⟩
set_option maxRecDepth 20000 in
theorem ff_X5_29 : FF RX5 29 5 9 (.array .int) := ⟨RX5, TX5, 12, tyX5, rfl, hinX5, by decide, (gd_t2 57 rfl rfl), tyX5_ok, nmX5, rfl, rfl, rfl⟩
set_option maxRecDepth 20000 in
theorem nw_X5_32 : NW RX5 32 2 10 [(0, 0, 0), (0, 0, 0), (3, 0, 0), (3, 0, 0), (3, 0, 0), (3, 0, 0), (3, 0, 0), (3, 0, 0), (3, 0, 0), (3, 0, 0)] := ⟨RX2, TX2, tyX2, rfl, hinX2, tyX2_ok, (gd_t2 41 rfl rfl), (gd_t1 61 rfl rfl), (gd_t1 5 rfl rfl), (fun j hj => by
  match j, hj with
  | 0, _ => rfl
  | 1, _ => rfl
  | 2, _ => rfl
  | 3, _ => rfl
  | 4, _ => rfl
  | 5, _ => rfl
  | 6, _ => rfl
  | 7, _ => rfl
  | 8, _ => rfl
  | 9, _ => rfl
  | j + 10, hj => exact absurd hj (by omega)), fun _ => rfl⟩
set_option maxRecDepth 20000 in
theorem nw_X5_39 : NW RX5 39 1 10 [(0, 0, 0), (0, 0, 0), (0, 0, 0), (0, 0, 0), (3, 0, 0), (3, 0, 0), (3, 0, 0), (3, 0, 0), (3, 0, 0), (3, 0, 0)] := ⟨RX1, TX1, tyX1, rfl, hinX1, tyX1_ok, (gd_t2 43 rfl rfl), (gd_t1 144 rfl rfl), (gd_t1 7 rfl rfl), (fun j hj => by
  match j, hj with
  | 0, _ => rfl
  | 1, _ => rfl
  | 2, _ => rfl
  | 3, _ => rfl
  | 4, _ => rfl
  | 5, _ => rfl
  | 6, _ => rfl
  | 7, _ => rfl
  | 8, _ => rfl
  | 9, _ => rfl
  | j + 10, hj => exact absurd hj (by omega)), fun _ => rfl⟩
set_option maxRecDepth 20000 in
theorem ol_X0_3 : Cond.methodLink RX0 3 Lib.objectInit ∈ lw_gd := (gd_t2 94 rfl rfl)
set_option maxRecDepth 20000 in
theorem ff_X0_9 : FF RX0 9 0 0 (.array .int) := ⟨RX0, TX0, 9, tyX0, rfl, hinX0, by decide, (gd_t2 95 rfl rfl), tyX0_ok, nmX0, rfl, rfl, rfl⟩
set_option maxRecDepth 20000 in
theorem ff_X0_15 : FF RX0 15 0 1 (.array .int) := ⟨RX0, TX0, 9, tyX0, rfl, hinX0, by decide, (gd_t2 97 rfl rfl), tyX0_ok, nmX0, rfl, rfl, rfl⟩
set_option maxRecDepth 20000 in
theorem ff_X0_18 : FF RX0 18 0 2 (.array .byte) := ⟨RX0, TX0, 9, tyX0, rfl, hinX0, by decide, (gd_t2 98 rfl rfl), tyX0_ok, nmX0, rfl, rfl, rfl⟩
set_option maxRecDepth 20000 in
theorem ff_X0_24 : FF RX0 24 0 3 (.array .int) := ⟨RX0, TX0, 9, tyX0, rfl, hinX0, by decide, (gd_t2 101 rfl rfl), tyX0_ok, nmX0, rfl, rfl, rfl⟩
set_option maxRecDepth 20000 in
theorem ol_X3_3 : Cond.methodLink RX3 3 Lib.objectInit ∈ lw_gd := (gd_t2 139 rfl rfl)
set_option maxRecDepth 20000 in
theorem ff_X3_9 : FF RX3 9 3 0 (.array .int) := ⟨RX3, TX3, 3, tyX3, rfl, hinX3, by decide, (gd_t2 140 rfl rfl), tyX3_ok, nmX3, rfl, rfl, rfl⟩
set_option maxRecDepth 20000 in
theorem ff_X3_15 : FF RX3 15 3 1 (.array .int) := ⟨RX3, TX3, 3, tyX3, rfl, hinX3, by decide, (gd_t2 141 rfl rfl), tyX3_ok, nmX3, rfl, rfl, rfl⟩
set_option maxRecDepth 20000 in
theorem ol_X7_3 : Cond.methodLink RX7 3 Lib.objectInit ∈ lw_gd := (gd_t2 157 rfl rfl)
set_option maxRecDepth 20000 in
theorem ff_X7_11 : FF RX7 11 7 0 (.array .long) := ⟨RX7, TX7, 3, tyX7, rfl, hinX7, by decide, (gd_t2 159 rfl rfl), tyX7_ok, nmX7, rfl, rfl, rfl⟩
set_option maxRecDepth 20000 in
theorem ff_X7_15 : FF RX7 15 7 1 (.array .int) := ⟨RX7, TX7, 3, tyX7, rfl, hinX7, by decide, (gd_t2 160 rfl rfl), tyX7_ok, nmX7, rfl, rfl, rfl⟩
set_option maxRecDepth 20000 in
theorem ff_X7_19 : FF RX7 19 7 2 (.array .int) := ⟨RX7, TX7, 3, tyX7, rfl, hinX7, by decide, (gd_t2 162 rfl rfl), tyX7_ok, nmX7, rfl, rfl, rfl⟩
set_option maxRecDepth 20000 in
theorem ol_X9_5 : Cond.methodLink RX9 5 Lib.objectInit ∈ lw_gd := (gd_t2 177 rfl rfl)
set_option maxRecDepth 20000 in
theorem ff_X9_11 : FF RX9 11 9 3 (.array .int) := ⟨RX9, TX9, 13, tyX9, rfl, hinX9, by decide, (gd_t2 183 rfl rfl), tyX9_ok, nmX9, rfl, rfl, rfl⟩
set_option maxRecDepth 20000 in
theorem ff_X9_15 : FF RX9 15 9 4 (.array .int) := ⟨RX9, TX9, 13, tyX9, rfl, hinX9, by decide, (gd_t2 184 rfl rfl), tyX9_ok, nmX9, rfl, rfl, rfl⟩
set_option maxRecDepth 20000 in
theorem ff_X9_18 : FF RX9 18 9 5 (.array .int) := ⟨RX9, TX9, 13, tyX9, rfl, hinX9, by decide, (gd_t2 185 rfl rfl), tyX9_ok, nmX9, rfl, rfl, rfl⟩
set_option maxRecDepth 20000 in
theorem ff_X9_21 : FF RX9 21 9 6 (.array .int) := ⟨RX9, TX9, 13, tyX9, rfl, hinX9, by decide, (gd_t2 186 rfl rfl), tyX9_ok, nmX9, rfl, rfl, rfl⟩
set_option maxRecDepth 20000 in
theorem ff_X9_24 : FF RX9 24 9 7 (.array .int) := ⟨RX9, TX9, 13, tyX9, rfl, hinX9, by decide, (gd_t2 187 rfl rfl), tyX9_ok, nmX9, rfl, rfl, rfl⟩
set_option maxRecDepth 20000 in
theorem ff_X9_27 : FF RX9 27 9 8 (.array .byte) := ⟨RX9, TX9, 13, tyX9, rfl, hinX9, by decide, (gd_t2 188 rfl rfl), tyX9_ok, nmX9, rfl, rfl, rfl⟩
set_option maxRecDepth 20000 in
theorem ff_X9_31 : FF RX9 31 9 9 (.array .int) := ⟨RX9, TX9, 13, tyX9, rfl, hinX9, by decide, (gd_t2 189 rfl rfl), tyX9_ok, nmX9, rfl, rfl, rfl⟩
set_option maxRecDepth 20000 in
theorem ff_X9_34 : FF RX9 34 9 10 (.array .int) := ⟨RX9, TX9, 13, tyX9, rfl, hinX9, by decide, (gd_t2 190 rfl rfl), tyX9_ok, nmX9, rfl, rfl, rfl⟩
set_option maxRecDepth 20000 in
theorem ff_X9_37 : FF RX9 37 9 11 (.array .int) := ⟨RX9, TX9, 13, tyX9, rfl, hinX9, by decide, (gd_t2 191 rfl rfl), tyX9_ok, nmX9, rfl, rfl, rfl⟩
set_option maxRecDepth 20000 in
theorem ff_X9_40 : FF RX9 40 9 12 (.array .int) := ⟨RX9, TX9, 13, tyX9, rfl, hinX9, by decide, (gd_t2 192 rfl rfl), tyX9_ok, nmX9, rfl, rfl, rfl⟩
set_option maxRecDepth 20000 in
theorem ol_X11_1 : Cond.methodLink RX11 1 Lib.objectInit ∈ lw_gd := (gd_t1 27 rfl rfl)
set_option maxRecDepth 20000 in
theorem nw_X11_7 : NW RX11 7 10 8 [(3, 0, 0), (3, 0, 0), (3, 0, 0), (3, 0, 0), (0, 0, 0), (0, 0, 0), (0, 0, 0), (3, 0, 0)] := ⟨RX10, TX10, tyX10, rfl, hinX10, tyX10_ok, (gd_t1 30 rfl rfl), (gd_t1 31 rfl rfl), (gd_t1 2 rfl rfl), (fun j hj => by
  match j, hj with
  | 0, _ => rfl
  | 1, _ => rfl
  | 2, _ => rfl
  | 3, _ => rfl
  | 4, _ => rfl
  | 5, _ => rfl
  | 6, _ => rfl
  | 7, _ => rfl
  | j + 8, hj => exact absurd hj (by omega)), fun _ => rfl⟩
set_option maxRecDepth 20000 in
theorem ff_X11_10 : FF RX11 10 11 0 (.object "CarriedWorks$Works") := ⟨RX11, TX11, 12, tyX11, rfl, hinX11, by decide, (gd_t2 220 rfl rfl), tyX11_ok, nmX11, rfl, rfl, rfl⟩
set_option maxRecDepth 20000 in
theorem cl_X11_7 : Cond.classLink RX11 7 "CarriedWorks$Works" ∈ lw_gd := (gd_t1 30 rfl rfl)
set_option maxRecDepth 20000 in
theorem ff_X11_16 : FF RX11 16 11 1 (.array (.object "CarriedWorks$Works")) := ⟨RX11, TX11, 12, tyX11, rfl, hinX11, by decide, (gd_t2 221 rfl rfl), tyX11_ok, nmX11, rfl, rfl, rfl⟩
set_option maxRecDepth 20000 in
theorem ff_X11_20 : FF RX11 20 11 2 (.array .boolean) := ⟨RX11, TX11, 12, tyX11, rfl, hinX11, by decide, (gd_t2 222 rfl rfl), tyX11_ok, nmX11, rfl, rfl, rfl⟩
set_option maxRecDepth 20000 in
theorem nw_X11_24 : NW RX11 24 5 12 [(3, 0, 0), (0, 0, 0), (3, 0, 0), (3, 0, 0), (3, 0, 0), (0, 0, 0), (0, 0, 0), (0, 0, 0), (0, 0, 0), (3, 0, 0), (4, 0, 0), (4, 0, 0)] := ⟨RX5, TX5, tyX5, rfl, hinX5, tyX5_ok, (gd_t2 35 rfl rfl), (gd_t2 36 rfl rfl), (gd_t1 9 rfl rfl), (fun j hj => by
  match j, hj with
  | 0, _ => rfl
  | 1, _ => rfl
  | 2, _ => rfl
  | 3, _ => rfl
  | 4, _ => rfl
  | 5, _ => rfl
  | 6, _ => rfl
  | 7, _ => rfl
  | 8, _ => rfl
  | 9, _ => rfl
  | 10, _ => rfl
  | 11, _ => rfl
  | j + 12, hj => exact absurd hj (by omega)), fun _ => rfl⟩
set_option maxRecDepth 20000 in
theorem ff_X11_27 : FF RX11 27 11 3 (.object "CarriedWorks$Reader") := ⟨RX11, TX11, 12, tyX11, rfl, hinX11, by decide, (gd_t2 223 rfl rfl), tyX11_ok, nmX11, rfl, rfl, rfl⟩
set_option maxRecDepth 20000 in
theorem nw_X11_31 : NW RX11 31 0 9 [(3, 0, 0), (3, 0, 0), (3, 0, 0), (3, 0, 0), (0, 0, 0), (0, 0, 0), (0, 0, 0), (0, 0, 0), (0, 0, 0)] := ⟨RX0, TX0, tyX0, rfl, hinX0, tyX0_ok, (gd_t2 89 rfl rfl), (gd_t2 90 rfl rfl), (gd_t1 10 rfl rfl), (fun j hj => by
  match j, hj with
  | 0, _ => rfl
  | 1, _ => rfl
  | 2, _ => rfl
  | 3, _ => rfl
  | 4, _ => rfl
  | 5, _ => rfl
  | 6, _ => rfl
  | 7, _ => rfl
  | 8, _ => rfl
  | j + 9, hj => exact absurd hj (by omega)), fun _ => rfl⟩
set_option maxRecDepth 20000 in
theorem ff_X11_34 : FF RX11 34 11 4 (.object "CarriedWorks$Machine") := ⟨RX11, TX11, 12, tyX11, rfl, hinX11, by decide, (gd_t2 224 rfl rfl), tyX11_ok, nmX11, rfl, rfl, rfl⟩
set_option maxRecDepth 20000 in
theorem ff_X11_38 : FF RX11 38 11 5 (.object "CarriedWorks$Machine") := ⟨RX11, TX11, 12, tyX11, rfl, hinX11, by decide, (gd_t2 225 rfl rfl), tyX11_ok, nmX11, rfl, rfl, rfl⟩
set_option maxRecDepth 20000 in
theorem nw_X11_41 : NW RX11 41 3 3 [(3, 0, 0), (3, 0, 0), (0, 0, 0)] := ⟨RX3, TX3, tyX3, rfl, hinX3, tyX3_ok, (gd_t2 134 rfl rfl), (gd_t2 135 rfl rfl), (gd_t1 11 rfl rfl), (fun j hj => by
  match j, hj with
  | 0, _ => rfl
  | 1, _ => rfl
  | 2, _ => rfl
  | j + 3, hj => exact absurd hj (by omega)), fun _ => rfl⟩
set_option maxRecDepth 20000 in
theorem ff_X11_44 : FF RX11 44 11 6 (.object "CarriedWorks$Planner") := ⟨RX11, TX11, 12, tyX11, rfl, hinX11, by decide, (gd_t2 226 rfl rfl), tyX11_ok, nmX11, rfl, rfl, rfl⟩
set_option maxRecDepth 20000 in
theorem nw_X11_48 : NW RX11 48 7 3 [(3, 0, 0), (3, 0, 0), (3, 0, 0)] := ⟨RX7, TX7, tyX7, rfl, hinX7, tyX7_ok, (gd_t2 152 rfl rfl), (gd_t2 153 rfl rfl), (gd_t1 12 rfl rfl), (fun j hj => by
  match j, hj with
  | 0, _ => rfl
  | 1, _ => rfl
  | 2, _ => rfl
  | j + 3, hj => exact absurd hj (by omega)), fun _ => rfl⟩
set_option maxRecDepth 20000 in
theorem ff_X11_51 : FF RX11 51 11 7 (.object "CarriedWorks$Slots") := ⟨RX11, TX11, 12, tyX11, rfl, hinX11, by decide, (gd_t2 227 rfl rfl), tyX11_ok, nmX11, rfl, rfl, rfl⟩
set_option maxRecDepth 20000 in
theorem ff_X11_55 : FF RX11 55 11 8 (.array .int) := ⟨RX11, TX11, 12, tyX11, rfl, hinX11, by decide, (gd_t2 228 rfl rfl), tyX11_ok, nmX11, rfl, rfl, rfl⟩
set_option maxRecDepth 20000 in
theorem nw_X11_63 : NW RX11 63 9 13 [(0, 0, 0), (0, 0, 0), (0, 0, 0), (3, 0, 0), (3, 0, 0), (3, 0, 0), (3, 0, 0), (3, 0, 0), (3, 0, 0), (3, 0, 0), (3, 0, 0), (3, 0, 0), (3, 0, 0)] := ⟨RX9, TX9, tyX9, rfl, hinX9, tyX9_ok, (gd_t2 172 rfl rfl), (gd_t2 173 rfl rfl), (gd_t1 13 rfl rfl), (fun j hj => by
  match j, hj with
  | 0, _ => rfl
  | 1, _ => rfl
  | 2, _ => rfl
  | 3, _ => rfl
  | 4, _ => rfl
  | 5, _ => rfl
  | 6, _ => rfl
  | 7, _ => rfl
  | 8, _ => rfl
  | 9, _ => rfl
  | 10, _ => rfl
  | 11, _ => rfl
  | 12, _ => rfl
  | j + 13, hj => exact absurd hj (by omega)), fun _ => rfl⟩
set_option maxRecDepth 20000 in
theorem ol_X12_13 : Cond.methodLink RX12 13 Lib.objectInit ∈ lw_gd := (gd_t6 42 rfl rfl)
set_option maxRecDepth 20000 in
theorem ff_X12_20 : FF RX12 20 12 1 (.array .int) := ⟨RX12, TX12, 54, tyX12, rfl, hinX12, by decide, (gd_t6 49 rfl rfl), tyX12_ok, nmX12, rfl, rfl, rfl⟩
set_option maxRecDepth 20000 in
theorem ff_X12_25 : FF RX12 25 12 2 (.array .int) := ⟨RX12, TX12, 54, tyX12, rfl, hinX12, by decide, (gd_t6 50 rfl rfl), tyX12_ok, nmX12, rfl, rfl, rfl⟩
set_option maxRecDepth 20000 in
theorem ff_X12_28 : FF RX12 28 12 3 (.array .boolean) := ⟨RX12, TX12, 54, tyX12, rfl, hinX12, by decide, (gd_t6 51 rfl rfl), tyX12_ok, nmX12, rfl, rfl, rfl⟩
set_option maxRecDepth 20000 in
theorem ff_X12_32 : FF RX12 32 12 4 (.array .byte) := ⟨RX12, TX12, 54, tyX12, rfl, hinX12, by decide, (gd_t6 52 rfl rfl), tyX12_ok, nmX12, rfl, rfl, rfl⟩
set_option maxRecDepth 20000 in
theorem ff_X12_36 : FF RX12 36 12 6 (.array .int) := ⟨RX12, TX12, 54, tyX12, rfl, hinX12, by decide, (gd_t6 54 rfl rfl), tyX12_ok, nmX12, rfl, rfl, rfl⟩
set_option maxRecDepth 20000 in
theorem ff_X12_42 : FF RX12 42 12 14 (.array .int) := ⟨RX12, TX12, 54, tyX12, rfl, hinX12, by decide, (gd_t6 62 rfl rfl), tyX12_ok, nmX12, rfl, rfl, rfl⟩
set_option maxRecDepth 20000 in
theorem ff_X12_45 : FF RX12 45 12 15 (.array .int) := ⟨RX12, TX12, 54, tyX12, rfl, hinX12, by decide, (gd_t6 63 rfl rfl), tyX12_ok, nmX12, rfl, rfl, rfl⟩
set_option maxRecDepth 20000 in
theorem ff_X12_48 : FF RX12 48 12 16 (.array .int) := ⟨RX12, TX12, 54, tyX12, rfl, hinX12, by decide, (gd_t6 64 rfl rfl), tyX12_ok, nmX12, rfl, rfl, rfl⟩
set_option maxRecDepth 20000 in
theorem ff_X12_51 : FF RX12 51 12 17 (.array .int) := ⟨RX12, TX12, 54, tyX12, rfl, hinX12, by decide, (gd_t6 65 rfl rfl), tyX12_ok, nmX12, rfl, rfl, rfl⟩
set_option maxRecDepth 20000 in
theorem ff_X12_54 : FF RX12 54 12 18 (.array .int) := ⟨RX12, TX12, 54, tyX12, rfl, hinX12, by decide, (gd_t6 66 rfl rfl), tyX12_ok, nmX12, rfl, rfl, rfl⟩
set_option maxRecDepth 20000 in
theorem ff_X12_57 : FF RX12 57 12 20 (.array .int) := ⟨RX12, TX12, 54, tyX12, rfl, hinX12, by decide, (gd_t6 68 rfl rfl), tyX12_ok, nmX12, rfl, rfl, rfl⟩
set_option maxRecDepth 20000 in
theorem ff_X12_60 : FF RX12 60 12 21 (.array .int) := ⟨RX12, TX12, 54, tyX12, rfl, hinX12, by decide, (gd_t6 69 rfl rfl), tyX12_ok, nmX12, rfl, rfl, rfl⟩
set_option maxRecDepth 20000 in
theorem ff_X12_63 : FF RX12 63 12 22 (.array .int) := ⟨RX12, TX12, 54, tyX12, rfl, hinX12, by decide, (gd_t6 70 rfl rfl), tyX12_ok, nmX12, rfl, rfl, rfl⟩
set_option maxRecDepth 20000 in
theorem ff_X12_66 : FF RX12 66 12 24 (.array .int) := ⟨RX12, TX12, 54, tyX12, rfl, hinX12, by decide, (gd_t6 72 rfl rfl), tyX12_ok, nmX12, rfl, rfl, rfl⟩
set_option maxRecDepth 20000 in
theorem ff_X12_69 : FF RX12 69 12 26 (.array .int) := ⟨RX12, TX12, 54, tyX12, rfl, hinX12, by decide, (gd_t6 74 rfl rfl), tyX12_ok, nmX12, rfl, rfl, rfl⟩
set_option maxRecDepth 20000 in
theorem ff_X12_75 : FF RX12 75 12 28 (.array .int) := ⟨RX12, TX12, 54, tyX12, rfl, hinX12, by decide, (gd_t6 76 rfl rfl), tyX12_ok, nmX12, rfl, rfl, rfl⟩
set_option maxRecDepth 20000 in
theorem ff_X12_78 : FF RX12 78 12 29 (.array .int) := ⟨RX12, TX12, 54, tyX12, rfl, hinX12, by decide, (gd_t6 77 rfl rfl), tyX12_ok, nmX12, rfl, rfl, rfl⟩
set_option maxRecDepth 20000 in
theorem ff_X12_81 : FF RX12 81 12 30 (.array .int) := ⟨RX12, TX12, 54, tyX12, rfl, hinX12, by decide, (gd_t6 78 rfl rfl), tyX12_ok, nmX12, rfl, rfl, rfl⟩
set_option maxRecDepth 20000 in
theorem ff_X12_84 : FF RX12 84 12 31 (.array .int) := ⟨RX12, TX12, 54, tyX12, rfl, hinX12, by decide, (gd_t6 79 rfl rfl), tyX12_ok, nmX12, rfl, rfl, rfl⟩
set_option maxRecDepth 20000 in
theorem ff_X12_87 : FF RX12 87 12 32 (.array .int) := ⟨RX12, TX12, 54, tyX12, rfl, hinX12, by decide, (gd_t6 80 rfl rfl), tyX12_ok, nmX12, rfl, rfl, rfl⟩
set_option maxRecDepth 20000 in
theorem ff_X12_90 : FF RX12 90 12 34 (.array .int) := ⟨RX12, TX12, 54, tyX12, rfl, hinX12, by decide, (gd_t6 82 rfl rfl), tyX12_ok, nmX12, rfl, rfl, rfl⟩
set_option maxRecDepth 20000 in
theorem ff_X12_93 : FF RX12 93 12 35 (.array .int) := ⟨RX12, TX12, 54, tyX12, rfl, hinX12, by decide, (gd_t6 83 rfl rfl), tyX12_ok, nmX12, rfl, rfl, rfl⟩
set_option maxRecDepth 20000 in
theorem ff_X12_96 : FF RX12 96 12 36 (.array .int) := ⟨RX12, TX12, 54, tyX12, rfl, hinX12, by decide, (gd_t6 84 rfl rfl), tyX12_ok, nmX12, rfl, rfl, rfl⟩
set_option maxRecDepth 20000 in
theorem ff_X12_99 : FF RX12 99 12 37 (.array .int) := ⟨RX12, TX12, 54, tyX12, rfl, hinX12, by decide, (gd_t6 85 rfl rfl), tyX12_ok, nmX12, rfl, rfl, rfl⟩
set_option maxRecDepth 20000 in
theorem ff_X12_102 : FF RX12 102 12 38 (.array .int) := ⟨RX12, TX12, 54, tyX12, rfl, hinX12, by decide, (gd_t6 86 rfl rfl), tyX12_ok, nmX12, rfl, rfl, rfl⟩
set_option maxRecDepth 20000 in
theorem ff_X12_105 : FF RX12 105 12 39 (.array .int) := ⟨RX12, TX12, 54, tyX12, rfl, hinX12, by decide, (gd_t6 87 rfl rfl), tyX12_ok, nmX12, rfl, rfl, rfl⟩
set_option maxRecDepth 20000 in
theorem ff_X12_108 : FF RX12 108 12 40 (.array .int) := ⟨RX12, TX12, 54, tyX12, rfl, hinX12, by decide, (gd_t6 88 rfl rfl), tyX12_ok, nmX12, rfl, rfl, rfl⟩
set_option maxRecDepth 20000 in
theorem ff_X12_111 : FF RX12 111 12 44 (.array .int) := ⟨RX12, TX12, 54, tyX12, rfl, hinX12, by decide, (gd_t6 92 rfl rfl), tyX12_ok, nmX12, rfl, rfl, rfl⟩
set_option maxRecDepth 20000 in
theorem ff_X12_114 : FF RX12 114 12 45 (.array .int) := ⟨RX12, TX12, 54, tyX12, rfl, hinX12, by decide, (gd_t6 93 rfl rfl), tyX12_ok, nmX12, rfl, rfl, rfl⟩
set_option maxRecDepth 20000 in
theorem ff_X12_117 : FF RX12 117 12 46 (.array .boolean) := ⟨RX12, TX12, 54, tyX12, rfl, hinX12, by decide, (gd_t6 94 rfl rfl), tyX12_ok, nmX12, rfl, rfl, rfl⟩
set_option maxRecDepth 20000 in
theorem ff_X12_120 : FF RX12 120 12 47 (.array .int) := ⟨RX12, TX12, 54, tyX12, rfl, hinX12, by decide, (gd_t6 95 rfl rfl), tyX12_ok, nmX12, rfl, rfl, rfl⟩
set_option maxRecDepth 20000 in
theorem ff_X12_123 : FF RX12 123 12 48 (.array .int) := ⟨RX12, TX12, 54, tyX12, rfl, hinX12, by decide, (gd_t6 96 rfl rfl), tyX12_ok, nmX12, rfl, rfl, rfl⟩
set_option maxRecDepth 20000 in
theorem ff_X12_126 : FF RX12 126 12 50 (.array .int) := ⟨RX12, TX12, 54, tyX12, rfl, hinX12, by decide, (gd_t6 98 rfl rfl), tyX12_ok, nmX12, rfl, rfl, rfl⟩
set_option maxRecDepth 20000 in
theorem ff_X12_129 : FF RX12 129 12 51 (.array .int) := ⟨RX12, TX12, 54, tyX12, rfl, hinX12, by decide, (gd_t6 99 rfl rfl), tyX12_ok, nmX12, rfl, rfl, rfl⟩
set_option maxRecDepth 20000 in
theorem ff_X12_132 : FF RX12 132 12 52 (.array .long) := ⟨RX12, TX12, 54, tyX12, rfl, hinX12, by decide, (gd_t6 100 rfl rfl), tyX12_ok, nmX12, rfl, rfl, rfl⟩
set_option maxRecDepth 20000 in
theorem ff_X12_136 : FF RX12 136 12 53 (.array .long) := ⟨RX12, TX12, 54, tyX12, rfl, hinX12, by decide, (gd_t6 101 rfl rfl), tyX12_ok, nmX12, rfl, rfl, rfl⟩
