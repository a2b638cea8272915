theorem zt_t1 {w : Cond} (i : Nat) (h : tables_1_1[i]? = some w) : w ∈ lw_tbl := List.mem_append_right _ (List.mem_append_left _ (List.mem_of_getElem? h))
theorem zt_t2 {w : Cond} (i : Nat) (h : tables_1_2[i]? = some w) : w ∈ lw_tbl := List.mem_append_right _ (List.mem_append_right _ (List.mem_append_left _ (List.mem_of_getElem? h)))
theorem zt_t3 {w : Cond} (i : Nat) (h : tables_1_3[i]? = some w) : w ∈ lw_tbl := List.mem_append_right _ (List.mem_append_right _ (List.mem_append_right _ (List.mem_append_left _ (List.mem_of_getElem? h))))
theorem zt_t4 {w : Cond} (i : Nat) (h : tables_1_4[i]? = some w) : w ∈ lw_tbl := List.mem_append_right _ (List.mem_append_right _ (List.mem_append_right _ (List.mem_append_right _ (List.mem_of_getElem? h))))
theorem zt_t0 {w : Cond} (i : Nat) (h : (k2_sels lw_privs)[i]? = some w) : w ∈ lw_tbl := List.mem_append_left _ (List.mem_of_getElem? h)
theorem cs_X0 : zw_CS 0 RX0 TX0 3 tyX0 := by
  refine ⟨rfl, ?_, tyX0_ok, nmX0⟩
  intro w hw
  obtain ⟨j, hj, rfl⟩ := List.mem_map.mp hw
  have hj := List.mem_range.mp hj
  match j, hj with
  | 0, _ => exact (zt_in (zt_t1 35 rfl) rfl)
  | 1, _ => exact (zt_in (zt_t1 37 rfl) rfl)
  | 2, _ => exact (zt_in (zt_t1 39 rfl) rfl)
  | j + 3, h => exact absurd h (by omega)
theorem cs_X1 : zw_CS 1 RX1 TX1 5 tyX1 := by
  refine ⟨rfl, ?_, tyX1_ok, nmX1⟩
  intro w hw
  obtain ⟨j, hj, rfl⟩ := List.mem_map.mp hw
  have hj := List.mem_range.mp hj
  match j, hj with
  | 0, _ => exact (zt_in (zt_t2 75 rfl) rfl)
  | 1, _ => exact (zt_in (zt_t2 67 rfl) rfl)
  | 2, _ => exact (zt_in (zt_t2 69 rfl) rfl)
  | 3, _ => exact (zt_in (zt_t2 71 rfl) rfl)
  | 4, _ => exact (zt_in (zt_t2 73 rfl) rfl)
  | j + 5, h => exact absurd h (by omega)
theorem cs_X2 : zw_CS 2 RX2 TX2 4 tyX2 := by
  refine ⟨rfl, ?_, tyX2_ok, nmX2⟩
  intro w hw
  obtain ⟨j, hj, rfl⟩ := List.mem_map.mp hw
  have hj := List.mem_range.mp hj
  match j, hj with
  | 0, _ => exact (zt_in (zt_t1 60 rfl) rfl)
  | 1, _ => exact (zt_in (zt_t1 62 rfl) rfl)
  | 2, _ => exact (zt_in (zt_t1 64 rfl) rfl)
  | 3, _ => exact (zt_in (zt_t1 66 rfl) rfl)
  | j + 4, h => exact absurd h (by omega)
theorem cs_X3 : zw_CS 3 RX3 TX3 3 tyX3 := by
  refine ⟨rfl, ?_, tyX3_ok, nmX3⟩
  intro w hw
  obtain ⟨j, hj, rfl⟩ := List.mem_map.mp hw
  have hj := List.mem_range.mp hj
  match j, hj with
  | 0, _ => exact (zt_in (zt_t2 47 rfl) rfl)
  | 1, _ => exact (zt_in (zt_t2 49 rfl) rfl)
  | 2, _ => exact (zt_in (zt_t2 51 rfl) rfl)
  | j + 3, h => exact absurd h (by omega)
theorem cs_X4 : zw_CS 4 RX4 TX4 5 tyX4 := by
  refine ⟨rfl, ?_, tyX4_ok, nmX4⟩
  intro w hw
  obtain ⟨j, hj, rfl⟩ := List.mem_map.mp hw
  have hj := List.mem_range.mp hj
  match j, hj with
  | 0, _ => exact (zt_in (zt_t2 185 rfl) rfl)
  | 1, _ => exact (zt_in (zt_t2 177 rfl) rfl)
  | 2, _ => exact (zt_in (zt_t2 179 rfl) rfl)
  | 3, _ => exact (zt_in (zt_t2 181 rfl) rfl)
  | 4, _ => exact (zt_in (zt_t2 183 rfl) rfl)
  | j + 5, h => exact absurd h (by omega)
theorem cs_X5 : zw_CS 5 RX5 TX5 3 tyX5 := by
  refine ⟨rfl, ?_, tyX5_ok, nmX5⟩
  intro w hw
  obtain ⟨j, hj, rfl⟩ := List.mem_map.mp hw
  have hj := List.mem_range.mp hj
  match j, hj with
  | 0, _ => exact (zt_in (zt_t2 11 rfl) rfl)
  | 1, _ => exact (zt_in (zt_t2 7 rfl) rfl)
  | 2, _ => exact (zt_in (zt_t2 9 rfl) rfl)
  | j + 3, h => exact absurd h (by omega)
theorem cs_X7 : zw_CS 6 RX7 TX7 6 tyX7 := by
  refine ⟨rfl, ?_, tyX7_ok, nmX7⟩
  intro w hw
  obtain ⟨j, hj, rfl⟩ := List.mem_map.mp hw
  have hj := List.mem_range.mp hj
  match j, hj with
  | 0, _ => exact (zt_in (zt_t2 163 rfl) rfl)
  | 1, _ => exact (zt_in (zt_t2 153 rfl) rfl)
  | 2, _ => exact (zt_in (zt_t2 155 rfl) rfl)
  | 3, _ => exact (zt_in (zt_t2 157 rfl) rfl)
  | 4, _ => exact (zt_in (zt_t2 159 rfl) rfl)
  | 5, _ => exact (zt_in (zt_t2 161 rfl) rfl)
  | j + 6, h => exact absurd h (by omega)
theorem cs_X8 : zw_CS 7 RX8 TX8 6 tyX8 := by
  refine ⟨rfl, ?_, tyX8_ok, nmX8⟩
  intro w hw
  obtain ⟨j, hj, rfl⟩ := List.mem_map.mp hw
  have hj := List.mem_range.mp hj
  match j, hj with
  | 0, _ => exact (zt_in (zt_t1 93 rfl) rfl)
  | 1, _ => exact (zt_in (zt_t1 95 rfl) rfl)
  | 2, _ => exact (zt_in (zt_t1 97 rfl) rfl)
  | 3, _ => exact (zt_in (zt_t1 99 rfl) rfl)
  | 4, _ => exact (zt_in (zt_t1 101 rfl) rfl)
  | 5, _ => exact (zt_in (zt_t1 103 rfl) rfl)
  | j + 6, h => exact absurd h (by omega)
theorem cs_X9 : zw_CS 8 RX9 TX9 12 tyX9 := by
  refine ⟨rfl, ?_, tyX9_ok, nmX9⟩
  intro w hw
  obtain ⟨j, hj, rfl⟩ := List.mem_map.mp hw
  have hj := List.mem_range.mp hj
  match j, hj with
  | 0, _ => exact (zt_in (zt_t1 119 rfl) rfl)
  | 1, _ => exact (zt_in (zt_t1 121 rfl) rfl)
  | 2, _ => exact (zt_in (zt_t1 123 rfl) rfl)
  | 3, _ => exact (zt_in (zt_t1 125 rfl) rfl)
  | 4, _ => exact (zt_in (zt_t1 127 rfl) rfl)
  | 5, _ => exact (zt_in (zt_t1 129 rfl) rfl)
  | 6, _ => exact (zt_in (zt_t1 131 rfl) rfl)
  | 7, _ => exact (zt_in (zt_t1 133 rfl) rfl)
  | 8, _ => exact (zt_in (zt_t1 135 rfl) rfl)
  | 9, _ => exact (zt_in (zt_t1 137 rfl) rfl)
  | 10, _ => exact (zt_in (zt_t1 139 rfl) rfl)
  | 11, _ => exact (zt_in (zt_t1 141 rfl) rfl)
  | j + 12, h => exact absurd h (by omega)
theorem cs_X10 : zw_CS 9 RX10 TX10 30 tyX10 := by
  refine ⟨rfl, ?_, tyX10_ok, nmX10⟩
  intro w hw
  obtain ⟨j, hj, rfl⟩ := List.mem_map.mp hw
  have hj := List.mem_range.mp hj
  match j, hj with
  | 0, _ => exact (zt_in (zt_t3 121 rfl) rfl)
  | 1, _ => exact (zt_in (zt_t3 123 rfl) rfl)
  | 2, _ => exact (zt_in (zt_t3 125 rfl) rfl)
  | 3, _ => exact (zt_in (zt_t3 127 rfl) rfl)
  | 4, _ => exact (zt_in (zt_t3 129 rfl) rfl)
  | 5, _ => exact (zt_in (zt_t3 131 rfl) rfl)
  | 6, _ => exact (zt_in (zt_t3 133 rfl) rfl)
  | 7, _ => exact (zt_in (zt_t3 135 rfl) rfl)
  | 8, _ => exact (zt_in (zt_t3 137 rfl) rfl)
  | 9, _ => exact (zt_in (zt_t3 139 rfl) rfl)
  | 10, _ => exact (zt_in (zt_t3 141 rfl) rfl)
  | 11, _ => exact (zt_in (zt_t3 143 rfl) rfl)
  | 12, _ => exact (zt_in (zt_t3 145 rfl) rfl)
  | 13, _ => exact (zt_in (zt_t3 147 rfl) rfl)
  | 14, _ => exact (zt_in (zt_t3 149 rfl) rfl)
  | 15, _ => exact (zt_in (zt_t3 151 rfl) rfl)
  | 16, _ => exact (zt_in (zt_t3 153 rfl) rfl)
  | 17, _ => exact (zt_in (zt_t3 155 rfl) rfl)
  | 18, _ => exact (zt_in (zt_t3 157 rfl) rfl)
  | 19, _ => exact (zt_in (zt_t3 159 rfl) rfl)
  | 20, _ => exact (zt_in (zt_t3 161 rfl) rfl)
  | 21, _ => exact (zt_in (zt_t3 163 rfl) rfl)
  | 22, _ => exact (zt_in (zt_t3 165 rfl) rfl)
  | 23, _ => exact (zt_in (zt_t3 167 rfl) rfl)
  | 24, _ => exact (zt_in (zt_t3 169 rfl) rfl)
  | 25, _ => exact (zt_in (zt_t3 171 rfl) rfl)
  | 26, _ => exact (zt_in (zt_t3 173 rfl) rfl)
  | 27, _ => exact (zt_in (zt_t3 175 rfl) rfl)
  | 28, _ => exact (zt_in (zt_t3 177 rfl) rfl)
  | 29, _ => exact (zt_in (zt_t3 179 rfl) rfl)
  | j + 30, h => exact absurd h (by omega)
theorem fs_X0_9_0 : zw_FS RX0 9 0 0 2 (.array .int) := ⟨RX0, TX0, 3, tyX0, "TicketRealm$Book", cs_X0, by decide, rfl, fun h => absurd h (by decide), (zt_in (zt_t1 29 rfl) rfl), Or.inl rfl, fun _ => ⟨rfl, rfl⟩⟩
theorem fs_X0_15_0 : zw_FS RX0 15 0 1 2 (.array .int) := ⟨RX0, TX0, 3, tyX0, "TicketRealm$Book", cs_X0, by decide, rfl, fun h => absurd h (by decide), (zt_in (zt_t1 31 rfl) rfl), Or.inl rfl, fun _ => ⟨rfl, rfl⟩⟩
theorem fs_X0_20_0 : zw_FS RX0 20 0 2 2 (.array (.array .int)) := ⟨RX0, TX0, 3, tyX0, "TicketRealm$Book", cs_X0, by decide, rfl, fun h => absurd h (by decide), (zt_in (zt_t1 33 rfl) rfl), Or.inl rfl, fun _ => ⟨rfl, rfl⟩⟩
theorem fs_X0_30_3 : zw_FS RX0 30 3 1 0 (.int) := ⟨RX3, TX3, 3, tyX3, "TicketRealm$Order", cs_X3, by decide, rfl, fun h => absurd h (by decide), (zt_in (zt_t2 44 rfl) rfl), Or.inl rfl, fun h => absurd h (by decide)⟩
theorem fs_X0_36_3 : zw_FS RX0 36 3 0 0 (.int) := ⟨RX3, TX3, 3, tyX3, "TicketRealm$Order", cs_X3, by decide, rfl, fun h => absurd h (by decide), (zt_in (zt_t2 40 rfl) rfl), Or.inl rfl, fun h => absurd h (by decide)⟩
theorem fs_X1_9_1 : zw_FS RX1 9 1 1 2 (.int) := ⟨RX1, TX1, 5, tyX1, "TicketRealm$Claim", cs_X1, by decide, rfl, fun h => absurd h (by decide), (zt_in (zt_t2 58 rfl) rfl), Or.inl rfl, fun _ => ⟨rfl, rfl⟩⟩
theorem fs_X1_15_1 : zw_FS RX1 15 1 2 2 (.int) := ⟨RX1, TX1, 5, tyX1, "TicketRealm$Claim", cs_X1, by decide, rfl, fun h => absurd h (by decide), (zt_in (zt_t2 60 rfl) rfl), Or.inl rfl, fun _ => ⟨rfl, rfl⟩⟩
theorem fs_X1_18_1 : zw_FS RX1 18 1 3 2 (.int) := ⟨RX1, TX1, 5, tyX1, "TicketRealm$Claim", cs_X1, by decide, rfl, fun h => absurd h (by decide), (zt_in (zt_t2 63 rfl) rfl), Or.inl rfl, fun _ => ⟨rfl, rfl⟩⟩
theorem fs_X1_21_1 : zw_FS RX1 21 1 4 2 (.object "TicketRealm$Order") := ⟨RX1, TX1, 5, tyX1, "TicketRealm$Claim", cs_X1, by decide, rfl, fun h => absurd h (by decide), (zt_in (zt_t2 64 rfl) rfl), Or.inl rfl, fun _ => ⟨rfl, rfl⟩⟩
theorem fs_X1_25_1 : zw_FS RX1 25 1 0 0 (.int) := ⟨RX1, TX1, 5, tyX1, "TicketRealm$Claim", cs_X1, by decide, rfl, fun h => absurd h (by decide), (zt_in (zt_t2 4 rfl) rfl), Or.inr (zt_in (zt_t2 5 rfl) rfl), fun h => absurd h (by decide)⟩
theorem fs_X10_7_9 : zw_FS RX10 7 9 1 2 (.array .int) := ⟨RX10, TX10, 30, tyX10, "TicketRealmModel", cs_X10, by decide, rfl, fun h => absurd h (by decide), (zt_in (zt_t3 92 rfl) rfl), Or.inl rfl, fun _ => ⟨rfl, rfl⟩⟩
theorem fs_X10_13_9 : zw_FS RX10 13 9 3 2 (.array .int) := ⟨RX10, TX10, 30, tyX10, "TicketRealmModel", cs_X10, by decide, rfl, fun h => absurd h (by decide), (zt_in (zt_t3 94 rfl) rfl), Or.inl rfl, fun _ => ⟨rfl, rfl⟩⟩
theorem fs_X10_16_9 : zw_FS RX10 16 9 4 2 (.array .boolean) := ⟨RX10, TX10, 30, tyX10, "TicketRealmModel", cs_X10, by decide, rfl, fun h => absurd h (by decide), (zt_in (zt_t3 95 rfl) rfl), Or.inl rfl, fun _ => ⟨rfl, rfl⟩⟩
theorem fs_X10_20_9 : zw_FS RX10 20 9 5 2 (.array .int) := ⟨RX10, TX10, 30, tyX10, "TicketRealmModel", cs_X10, by decide, rfl, fun h => absurd h (by decide), (zt_in (zt_t3 96 rfl) rfl), Or.inl rfl, fun _ => ⟨rfl, rfl⟩⟩
theorem fs_X10_23_9 : zw_FS RX10 23 9 6 2 (.array .int) := ⟨RX10, TX10, 30, tyX10, "TicketRealmModel", cs_X10, by decide, rfl, fun h => absurd h (by decide), (zt_in (zt_t3 97 rfl) rfl), Or.inl rfl, fun _ => ⟨rfl, rfl⟩⟩
theorem fs_X10_26_9 : zw_FS RX10 26 9 7 2 (.array .int) := ⟨RX10, TX10, 30, tyX10, "TicketRealmModel", cs_X10, by decide, rfl, fun h => absurd h (by decide), (zt_in (zt_t3 98 rfl) rfl), Or.inl rfl, fun _ => ⟨rfl, rfl⟩⟩
theorem fs_X10_29_9 : zw_FS RX10 29 9 9 2 (.array .int) := ⟨RX10, TX10, 30, tyX10, "TicketRealmModel", cs_X10, by decide, rfl, fun h => absurd h (by decide), (zt_in (zt_t3 100 rfl) rfl), Or.inl rfl, fun _ => ⟨rfl, rfl⟩⟩
theorem fs_X10_32_9 : zw_FS RX10 32 9 10 2 (.array .int) := ⟨RX10, TX10, 30, tyX10, "TicketRealmModel", cs_X10, by decide, rfl, fun h => absurd h (by decide), (zt_in (zt_t3 101 rfl) rfl), Or.inl rfl, fun _ => ⟨rfl, rfl⟩⟩
theorem fs_X10_35_9 : zw_FS RX10 35 9 11 2 (.array .int) := ⟨RX10, TX10, 30, tyX10, "TicketRealmModel", cs_X10, by decide, rfl, fun h => absurd h (by decide), (zt_in (zt_t3 102 rfl) rfl), Or.inl rfl, fun _ => ⟨rfl, rfl⟩⟩
theorem fs_X10_38_9 : zw_FS RX10 38 9 12 2 (.array .int) := ⟨RX10, TX10, 30, tyX10, "TicketRealmModel", cs_X10, by decide, rfl, fun h => absurd h (by decide), (zt_in (zt_t3 103 rfl) rfl), Or.inl rfl, fun _ => ⟨rfl, rfl⟩⟩
theorem fs_X10_41_9 : zw_FS RX10 41 9 13 2 (.array .int) := ⟨RX10, TX10, 30, tyX10, "TicketRealmModel", cs_X10, by decide, rfl, fun h => absurd h (by decide), (zt_in (zt_t3 104 rfl) rfl), Or.inl rfl, fun _ => ⟨rfl, rfl⟩⟩
theorem fs_X10_44_9 : zw_FS RX10 44 9 14 2 (.array .int) := ⟨RX10, TX10, 30, tyX10, "TicketRealmModel", cs_X10, by decide, rfl, fun h => absurd h (by decide), (zt_in (zt_t3 105 rfl) rfl), Or.inl rfl, fun _ => ⟨rfl, rfl⟩⟩
theorem fs_X10_47_9 : zw_FS RX10 47 9 15 2 (.array .int) := ⟨RX10, TX10, 30, tyX10, "TicketRealmModel", cs_X10, by decide, rfl, fun h => absurd h (by decide), (zt_in (zt_t3 106 rfl) rfl), Or.inl rfl, fun _ => ⟨rfl, rfl⟩⟩
theorem fs_X10_50_9 : zw_FS RX10 50 9 16 2 (.array .int) := ⟨RX10, TX10, 30, tyX10, "TicketRealmModel", cs_X10, by decide, rfl, fun h => absurd h (by decide), (zt_in (zt_t3 107 rfl) rfl), Or.inl rfl, fun _ => ⟨rfl, rfl⟩⟩
theorem fs_X10_53_9 : zw_FS RX10 53 9 17 2 (.array .int) := ⟨RX10, TX10, 30, tyX10, "TicketRealmModel", cs_X10, by decide, rfl, fun h => absurd h (by decide), (zt_in (zt_t3 108 rfl) rfl), Or.inl rfl, fun _ => ⟨rfl, rfl⟩⟩
theorem fs_X10_56_9 : zw_FS RX10 56 9 18 2 (.array .int) := ⟨RX10, TX10, 30, tyX10, "TicketRealmModel", cs_X10, by decide, rfl, fun h => absurd h (by decide), (zt_in (zt_t3 109 rfl) rfl), Or.inl rfl, fun _ => ⟨rfl, rfl⟩⟩
theorem fs_X10_59_9 : zw_FS RX10 59 9 20 2 (.array .int) := ⟨RX10, TX10, 30, tyX10, "TicketRealmModel", cs_X10, by decide, rfl, fun h => absurd h (by decide), (zt_in (zt_t3 111 rfl) rfl), Or.inl rfl, fun _ => ⟨rfl, rfl⟩⟩
theorem fs_X10_62_9 : zw_FS RX10 62 9 21 2 (.array .int) := ⟨RX10, TX10, 30, tyX10, "TicketRealmModel", cs_X10, by decide, rfl, fun h => absurd h (by decide), (zt_in (zt_t3 112 rfl) rfl), Or.inl rfl, fun _ => ⟨rfl, rfl⟩⟩
theorem fs_X10_65_9 : zw_FS RX10 65 9 22 2 (.array .int) := ⟨RX10, TX10, 30, tyX10, "TicketRealmModel", cs_X10, by decide, rfl, fun h => absurd h (by decide), (zt_in (zt_t3 113 rfl) rfl), Or.inl rfl, fun _ => ⟨rfl, rfl⟩⟩
theorem fs_X10_68_9 : zw_FS RX10 68 9 23 2 (.array .int) := ⟨RX10, TX10, 30, tyX10, "TicketRealmModel", cs_X10, by decide, rfl, fun h => absurd h (by decide), (zt_in (zt_t3 114 rfl) rfl), Or.inl rfl, fun _ => ⟨rfl, rfl⟩⟩
theorem fs_X10_71_9 : zw_FS RX10 71 9 24 2 (.array .int) := ⟨RX10, TX10, 30, tyX10, "TicketRealmModel", cs_X10, by decide, rfl, fun h => absurd h (by decide), (zt_in (zt_t3 115 rfl) rfl), Or.inl rfl, fun _ => ⟨rfl, rfl⟩⟩
theorem fs_X10_74_9 : zw_FS RX10 74 9 25 2 (.array .int) := ⟨RX10, TX10, 30, tyX10, "TicketRealmModel", cs_X10, by decide, rfl, fun h => absurd h (by decide), (zt_in (zt_t3 116 rfl) rfl), Or.inl rfl, fun _ => ⟨rfl, rfl⟩⟩
theorem fs_X10_77_9 : zw_FS RX10 77 9 26 2 (.array .int) := ⟨RX10, TX10, 30, tyX10, "TicketRealmModel", cs_X10, by decide, rfl, fun h => absurd h (by decide), (zt_in (zt_t3 117 rfl) rfl), Or.inl rfl, fun _ => ⟨rfl, rfl⟩⟩
theorem fs_X10_80_9 : zw_FS RX10 80 9 29 2 (.array .int) := ⟨RX10, TX10, 30, tyX10, "TicketRealmModel", cs_X10, by decide, rfl, fun h => absurd h (by decide), (zt_in (zt_t3 120 rfl) rfl), Or.inl rfl, fun _ => ⟨rfl, rfl⟩⟩
theorem fs_X10_83_9 : zw_FS RX10 83 9 0 2 (.int) := ⟨RX10, TX10, 30, tyX10, "TicketRealmModel", cs_X10, by decide, rfl, fun h => absurd h (by decide), (zt_in (zt_t3 91 rfl) rfl), Or.inl rfl, fun _ => ⟨rfl, rfl⟩⟩
theorem fs_X10_91_9 : zw_FS RX10 91 9 2 1 (.int) := ⟨RX10, TX10, 30, tyX10, "TicketRealmModel", cs_X10, by decide, rfl, fun _ => rfl, (zt_in (zt_t3 93 rfl) rfl), Or.inl rfl, fun h => absurd h (by decide)⟩
theorem fs_X10_102_9 : zw_FS RX10 102 9 8 1 (.int) := ⟨RX10, TX10, 30, tyX10, "TicketRealmModel", cs_X10, by decide, rfl, fun _ => rfl, (zt_in (zt_t3 99 rfl) rfl), Or.inl rfl, fun h => absurd h (by decide)⟩
theorem fs_X10_109_9 : zw_FS RX10 109 9 19 1 (.int) := ⟨RX10, TX10, 30, tyX10, "TicketRealmModel", cs_X10, by decide, rfl, fun _ => rfl, (zt_in (zt_t3 110 rfl) rfl), Or.inl rfl, fun h => absurd h (by decide)⟩
theorem fs_X10_147_9 : zw_FS RX10 147 9 28 1 (.int) := ⟨RX10, TX10, 30, tyX10, "TicketRealmModel", cs_X10, by decide, rfl, fun _ => rfl, (zt_in (zt_t3 119 rfl) rfl), Or.inl rfl, fun h => absurd h (by decide)⟩
theorem fs_X10_156_9 : zw_FS RX10 156 9 27 1 (.int) := ⟨RX10, TX10, 30, tyX10, "TicketRealmModel", cs_X10, by decide, rfl, fun _ => rfl, (zt_in (zt_t3 118 rfl) rfl), Or.inl rfl, fun h => absurd h (by decide)⟩
theorem fs_X2_9_2 : zw_FS RX2 9 2 0 2 (.array .int) := ⟨RX2, TX2, 4, tyX2, "TicketRealm$FileService", cs_X2, by decide, rfl, fun h => absurd h (by decide), (zt_in (zt_t1 53 rfl) rfl), Or.inl rfl, fun _ => ⟨rfl, rfl⟩⟩
theorem fs_X2_17_2 : zw_FS RX2 17 2 1 2 (.array (.object "TicketRealm$Claim")) := ⟨RX2, TX2, 4, tyX2, "TicketRealm$FileService", cs_X2, by decide, rfl, fun h => absurd h (by decide), (zt_in (zt_t1 55 rfl) rfl), Or.inl rfl, fun _ => ⟨rfl, rfl⟩⟩
theorem fs_X2_21_2 : zw_FS RX2 21 2 2 1 (.int) := ⟨RX2, TX2, 4, tyX2, "TicketRealm$FileService", cs_X2, by decide, rfl, fun _ => rfl, (zt_in (zt_t1 56 rfl) rfl), Or.inl rfl, fun h => absurd h (by decide)⟩
theorem fs_X2_25_2 : zw_FS RX2 25 2 3 1 (.int) := ⟨RX2, TX2, 4, tyX2, "TicketRealm$FileService", cs_X2, by decide, rfl, fun _ => rfl, (zt_in (zt_t1 58 rfl) rfl), Or.inl rfl, fun h => absurd h (by decide)⟩
theorem fs_X2_28_1 : zw_FS RX2 28 1 2 0 (.int) := ⟨RX1, TX1, 5, tyX1, "TicketRealm$Claim", cs_X1, by decide, rfl, fun h => absurd h (by decide), (zt_in (zt_t2 61 rfl) rfl), Or.inl rfl, fun h => absurd h (by decide)⟩
theorem fs_X2_35_1 : zw_FS RX2 35 1 4 0 (.object "TicketRealm$Order") := ⟨RX1, TX1, 5, tyX1, "TicketRealm$Claim", cs_X1, by decide, rfl, fun h => absurd h (by decide), (zt_in (zt_t2 65 rfl) rfl), Or.inl rfl, fun h => absurd h (by decide)⟩
theorem fs_X2_39_3 : zw_FS RX2 39 3 0 0 (.int) := ⟨RX3, TX3, 3, tyX3, "TicketRealm$Order", cs_X3, by decide, rfl, fun h => absurd h (by decide), (zt_in (zt_t2 39 rfl) rfl), Or.inl rfl, fun h => absurd h (by decide)⟩
theorem fs_X2_44_3 : zw_FS RX2 44 3 1 0 (.int) := ⟨RX3, TX3, 3, tyX3, "TicketRealm$Order", cs_X3, by decide, rfl, fun h => absurd h (by decide), (zt_in (zt_t2 43 rfl) rfl), Or.inl rfl, fun h => absurd h (by decide)⟩
theorem fs_X2_47_3 : zw_FS RX2 47 3 2 0 (.int) := ⟨RX3, TX3, 3, tyX3, "TicketRealm$Order", cs_X3, by decide, rfl, fun h => absurd h (by decide), (zt_in (zt_t2 46 rfl) rfl), Or.inl rfl, fun h => absurd h (by decide)⟩
theorem fs_X3_7_3 : zw_FS RX3 7 3 0 2 (.int) := ⟨RX3, TX3, 3, tyX3, "TicketRealm$Order", cs_X3, by decide, rfl, fun h => absurd h (by decide), (zt_in (zt_t2 38 rfl) rfl), Or.inl rfl, fun _ => ⟨rfl, rfl⟩⟩
theorem fs_X3_13_3 : zw_FS RX3 13 3 1 2 (.int) := ⟨RX3, TX3, 3, tyX3, "TicketRealm$Order", cs_X3, by decide, rfl, fun h => absurd h (by decide), (zt_in (zt_t2 42 rfl) rfl), Or.inl rfl, fun _ => ⟨rfl, rfl⟩⟩
theorem fs_X3_16_3 : zw_FS RX3 16 3 2 2 (.int) := ⟨RX3, TX3, 3, tyX3, "TicketRealm$Order", cs_X3, by decide, rfl, fun h => absurd h (by decide), (zt_in (zt_t2 45 rfl) rfl), Or.inl rfl, fun _ => ⟨rfl, rfl⟩⟩
theorem fs_X4_9_4 : zw_FS RX4 9 4 1 2 (.int) := ⟨RX4, TX4, 5, tyX4, "TicketRealm$Part", cs_X4, by decide, rfl, fun h => absurd h (by decide), (zt_in (zt_t2 170 rfl) rfl), Or.inl rfl, fun _ => ⟨rfl, rfl⟩⟩
theorem fs_X4_15_4 : zw_FS RX4 15 4 2 2 (.int) := ⟨RX4, TX4, 5, tyX4, "TicketRealm$Part", cs_X4, by decide, rfl, fun h => absurd h (by decide), (zt_in (zt_t2 172 rfl) rfl), Or.inl rfl, fun _ => ⟨rfl, rfl⟩⟩
theorem fs_X4_18_4 : zw_FS RX4 18 4 3 2 (.int) := ⟨RX4, TX4, 5, tyX4, "TicketRealm$Part", cs_X4, by decide, rfl, fun h => absurd h (by decide), (zt_in (zt_t2 174 rfl) rfl), Or.inl rfl, fun _ => ⟨rfl, rfl⟩⟩
theorem fs_X4_21_4 : zw_FS RX4 21 4 4 2 (.int) := ⟨RX4, TX4, 5, tyX4, "TicketRealm$Part", cs_X4, by decide, rfl, fun h => absurd h (by decide), (zt_in (zt_t2 176 rfl) rfl), Or.inl rfl, fun _ => ⟨rfl, rfl⟩⟩
theorem fs_X5_9_5 : zw_FS RX5 9 5 1 2 (.int) := ⟨RX5, TX5, 3, tyX5, "TicketRealm$Proof", cs_X5, by decide, rfl, fun h => absurd h (by decide), (zt_in (zt_t1 239 rfl) rfl), Or.inl rfl, fun _ => ⟨rfl, rfl⟩⟩
theorem fs_X5_15_5 : zw_FS RX5 15 5 2 2 (.int) := ⟨RX5, TX5, 3, tyX5, "TicketRealm$Proof", cs_X5, by decide, rfl, fun h => absurd h (by decide), (zt_in (zt_t2 1 rfl) rfl), Or.inl rfl, fun _ => ⟨rfl, rfl⟩⟩
theorem fs_X6_9_1 : zw_FS RX6 9 1 0 2 (.int) := ⟨RX1, TX1, 5, tyX1, "TicketRealm$Seal", cs_X1, by decide, rfl, fun h => absurd h (by decide), (zt_in (zt_t2 3 rfl) rfl), Or.inl rfl, fun _ => ⟨rfl, rfl⟩⟩
theorem fs_X6_9_4 : zw_FS RX6 9 4 0 2 (.int) := ⟨RX4, TX4, 5, tyX4, "TicketRealm$Seal", cs_X4, by decide, rfl, fun h => absurd h (by decide), (zt_in (zt_t2 3 rfl) rfl), Or.inl rfl, fun _ => ⟨rfl, rfl⟩⟩
theorem fs_X6_9_5 : zw_FS RX6 9 5 0 2 (.int) := ⟨RX5, TX5, 3, tyX5, "TicketRealm$Seal", cs_X5, by decide, rfl, fun h => absurd h (by decide), (zt_in (zt_t2 3 rfl) rfl), Or.inl rfl, fun _ => ⟨rfl, rfl⟩⟩
theorem fs_X6_9_6 : zw_FS RX6 9 6 0 2 (.int) := ⟨RX7, TX7, 6, tyX7, "TicketRealm$Seal", cs_X7, by decide, rfl, fun h => absurd h (by decide), (zt_in (zt_t2 3 rfl) rfl), Or.inl rfl, fun _ => ⟨rfl, rfl⟩⟩
theorem fs_X7_9_6 : zw_FS RX7 9 6 1 2 (.int) := ⟨RX7, TX7, 6, tyX7, "TicketRealm$Ticket", cs_X7, by decide, rfl, fun h => absurd h (by decide), (zt_in (zt_t2 143 rfl) rfl), Or.inl rfl, fun _ => ⟨rfl, rfl⟩⟩
theorem fs_X7_15_6 : zw_FS RX7 15 6 2 2 (.int) := ⟨RX7, TX7, 6, tyX7, "TicketRealm$Ticket", cs_X7, by decide, rfl, fun h => absurd h (by decide), (zt_in (zt_t2 145 rfl) rfl), Or.inl rfl, fun _ => ⟨rfl, rfl⟩⟩
theorem fs_X7_18_6 : zw_FS RX7 18 6 3 2 (.int) := ⟨RX7, TX7, 6, tyX7, "TicketRealm$Ticket", cs_X7, by decide, rfl, fun h => absurd h (by decide), (zt_in (zt_t2 147 rfl) rfl), Or.inl rfl, fun _ => ⟨rfl, rfl⟩⟩
theorem fs_X7_21_6 : zw_FS RX7 21 6 4 2 (.int) := ⟨RX7, TX7, 6, tyX7, "TicketRealm$Ticket", cs_X7, by decide, rfl, fun h => absurd h (by decide), (zt_in (zt_t2 149 rfl) rfl), Or.inl rfl, fun _ => ⟨rfl, rfl⟩⟩
theorem fs_X7_24_6 : zw_FS RX7 24 6 5 2 (.int) := ⟨RX7, TX7, 6, tyX7, "TicketRealm$Ticket", cs_X7, by decide, rfl, fun h => absurd h (by decide), (zt_in (zt_t2 151 rfl) rfl), Or.inl rfl, fun _ => ⟨rfl, rfl⟩⟩
theorem fs_X8_9_7 : zw_FS RX8 9 7 0 1 (.int) := ⟨RX8, TX8, 6, tyX8, "TicketRealm$User", cs_X8, by decide, rfl, fun _ => rfl, (zt_in (zt_t1 82 rfl) rfl), Or.inl rfl, fun h => absurd h (by decide)⟩
theorem fs_X8_15_7 : zw_FS RX8 15 7 1 1 (.int) := ⟨RX8, TX8, 6, tyX8, "TicketRealm$User", cs_X8, by decide, rfl, fun _ => rfl, (zt_in (zt_t1 84 rfl) rfl), Or.inl rfl, fun h => absurd h (by decide)⟩
theorem fs_X8_18_7 : zw_FS RX8 18 7 2 1 (.int) := ⟨RX8, TX8, 6, tyX8, "TicketRealm$User", cs_X8, by decide, rfl, fun _ => rfl, (zt_in (zt_t1 86 rfl) rfl), Or.inl rfl, fun h => absurd h (by decide)⟩
theorem fs_X8_21_7 : zw_FS RX8 21 7 3 1 (.int) := ⟨RX8, TX8, 6, tyX8, "TicketRealm$User", cs_X8, by decide, rfl, fun _ => rfl, (zt_in (zt_t1 88 rfl) rfl), Or.inl rfl, fun h => absurd h (by decide)⟩
theorem fs_X8_24_7 : zw_FS RX8 24 7 4 2 (.array .int) := ⟨RX8, TX8, 6, tyX8, "TicketRealm$User", cs_X8, by decide, rfl, fun h => absurd h (by decide), (zt_in (zt_t1 89 rfl) rfl), Or.inl rfl, fun _ => ⟨rfl, rfl⟩⟩
theorem fs_X8_28_7 : zw_FS RX8 28 7 5 2 (.array .int) := ⟨RX8, TX8, 6, tyX8, "TicketRealm$User", cs_X8, by decide, rfl, fun h => absurd h (by decide), (zt_in (zt_t1 91 rfl) rfl), Or.inl rfl, fun _ => ⟨rfl, rfl⟩⟩
theorem fs_X9_9_8 : zw_FS RX9 9 8 1 2 (.array .int) := ⟨RX9, TX9, 12, tyX9, "TicketRealm", cs_X9, by decide, rfl, fun h => absurd h (by decide), (zt_in (zt_t1 108 rfl) rfl), Or.inl rfl, fun _ => ⟨rfl, rfl⟩⟩
theorem fs_X9_13_8 : zw_FS RX9 13 8 2 2 (.array .int) := ⟨RX9, TX9, 12, tyX9, "TicketRealm", cs_X9, by decide, rfl, fun h => absurd h (by decide), (zt_in (zt_t1 109 rfl) rfl), Or.inl rfl, fun _ => ⟨rfl, rfl⟩⟩
theorem fs_X9_19_8 : zw_FS RX9 19 8 3 2 (.object "TicketRealm$Book") := ⟨RX9, TX9, 12, tyX9, "TicketRealm", cs_X9, by decide, rfl, fun h => absurd h (by decide), (zt_in (zt_t1 110 rfl) rfl), Or.inl rfl, fun _ => ⟨rfl, rfl⟩⟩
theorem fs_X9_23_8 : zw_FS RX9 23 8 4 2 (.object "TicketRealm$Book") := ⟨RX9, TX9, 12, tyX9, "TicketRealm", cs_X9, by decide, rfl, fun h => absurd h (by decide), (zt_in (zt_t1 111 rfl) rfl), Or.inl rfl, fun _ => ⟨rfl, rfl⟩⟩
theorem fs_X9_28_8 : zw_FS RX9 28 8 5 2 (.array (.object "TicketRealm$User")) := ⟨RX9, TX9, 12, tyX9, "TicketRealm", cs_X9, by decide, rfl, fun h => absurd h (by decide), (zt_in (zt_t1 112 rfl) rfl), Or.inl rfl, fun _ => ⟨rfl, rfl⟩⟩
theorem fs_X9_35_8 : zw_FS RX9 35 8 6 2 (.object "TicketRealm$FileService") := ⟨RX9, TX9, 12, tyX9, "TicketRealm", cs_X9, by decide, rfl, fun h => absurd h (by decide), (zt_in (zt_t1 113 rfl) rfl), Or.inl rfl, fun _ => ⟨rfl, rfl⟩⟩
theorem fs_X9_41_8 : zw_FS RX9 41 8 7 2 (.array (.object "TicketRealm$Seal")) := ⟨RX9, TX9, 12, tyX9, "TicketRealm", cs_X9, by decide, rfl, fun h => absurd h (by decide), (zt_in (zt_t1 114 rfl) rfl), Or.inl rfl, fun _ => ⟨rfl, rfl⟩⟩
theorem fs_X9_45_8 : zw_FS RX9 45 8 8 1 (.int) := ⟨RX9, TX9, 12, tyX9, "TicketRealm", cs_X9, by decide, rfl, fun _ => rfl, (zt_in (zt_t1 115 rfl) rfl), Or.inl rfl, fun h => absurd h (by decide)⟩
theorem fs_X9_49_8 : zw_FS RX9 49 8 9 2 (.array .boolean) := ⟨RX9, TX9, 12, tyX9, "TicketRealm", cs_X9, by decide, rfl, fun h => absurd h (by decide), (zt_in (zt_t1 116 rfl) rfl), Or.inl rfl, fun _ => ⟨rfl, rfl⟩⟩
theorem fs_X9_53_8 : zw_FS RX9 53 8 10 1 (.int) := ⟨RX9, TX9, 12, tyX9, "TicketRealm", cs_X9, by decide, rfl, fun _ => rfl, (zt_in (zt_t1 117 rfl) rfl), Or.inl rfl, fun h => absurd h (by decide)⟩
theorem fs_X9_56_8 : zw_FS RX9 56 8 11 1 (.int) := ⟨RX9, TX9, 12, tyX9, "TicketRealm", cs_X9, by decide, rfl, fun _ => rfl, (zt_in (zt_t1 118 rfl) rfl), Or.inl rfl, fun h => absurd h (by decide)⟩
theorem fs_X9_68_8 : zw_FS RX9 68 8 0 2 (.int) := ⟨RX9, TX9, 12, tyX9, "TicketRealm", cs_X9, by decide, rfl, fun h => absurd h (by decide), (zt_in (zt_t1 107 rfl) rfl), Or.inl rfl, fun _ => ⟨rfl, rfl⟩⟩
theorem fs_X9_95_0 : zw_FS RX9 95 0 1 0 (.array .int) := ⟨RX0, TX0, 3, tyX0, "TicketRealm$Book", cs_X0, by decide, rfl, fun h => absurd h (by decide), (zt_in (zt_t1 32 rfl) rfl), Or.inl rfl, fun h => absurd h (by decide)⟩
theorem fs_X9_101_0 : zw_FS RX9 101 0 2 0 (.array (.array .int)) := ⟨RX0, TX0, 3, tyX0, "TicketRealm$Book", cs_X0, by decide, rfl, fun h => absurd h (by decide), (zt_in (zt_t1 34 rfl) rfl), Or.inl rfl, fun h => absurd h (by decide)⟩
theorem fs_X9_137_7 : zw_FS RX9 137 7 5 0 (.array .int) := ⟨RX8, TX8, 6, tyX8, "TicketRealm$User", cs_X8, by decide, rfl, fun h => absurd h (by decide), (zt_in (zt_t1 92 rfl) rfl), Or.inl rfl, fun h => absurd h (by decide)⟩
theorem fs_X9_159_7 : zw_FS RX9 159 7 2 0 (.int) := ⟨RX8, TX8, 6, tyX8, "TicketRealm$User", cs_X8, by decide, rfl, fun h => absurd h (by decide), (zt_in (zt_t1 87 rfl) rfl), Or.inl rfl, fun h => absurd h (by decide)⟩
theorem fs_X9_166_4 : zw_FS RX9 166 4 2 0 (.int) := ⟨RX4, TX4, 5, tyX4, "TicketRealm$Part", cs_X4, by decide, rfl, fun h => absurd h (by decide), (zt_in (zt_t2 173 rfl) rfl), Or.inl rfl, fun h => absurd h (by decide)⟩
theorem fs_X9_171_7 : zw_FS RX9 171 7 0 0 (.int) := ⟨RX8, TX8, 6, tyX8, "TicketRealm$User", cs_X8, by decide, rfl, fun h => absurd h (by decide), (zt_in (zt_t1 83 rfl) rfl), Or.inl rfl, fun h => absurd h (by decide)⟩
theorem fs_X9_174_4 : zw_FS RX9 174 4 3 0 (.int) := ⟨RX4, TX4, 5, tyX4, "TicketRealm$Part", cs_X4, by decide, rfl, fun h => absurd h (by decide), (zt_in (zt_t2 175 rfl) rfl), Or.inl rfl, fun h => absurd h (by decide)⟩
theorem fs_X9_177_7 : zw_FS RX9 177 7 1 0 (.int) := ⟨RX8, TX8, 6, tyX8, "TicketRealm$User", cs_X8, by decide, rfl, fun h => absurd h (by decide), (zt_in (zt_t1 85 rfl) rfl), Or.inl rfl, fun h => absurd h (by decide)⟩
theorem fs_X9_180_4 : zw_FS RX9 180 4 1 0 (.int) := ⟨RX4, TX4, 5, tyX4, "TicketRealm$Part", cs_X4, by decide, rfl, fun h => absurd h (by decide), (zt_in (zt_t2 171 rfl) rfl), Or.inl rfl, fun h => absurd h (by decide)⟩
theorem fs_X9_192_0 : zw_FS RX9 192 0 0 0 (.array .int) := ⟨RX0, TX0, 3, tyX0, "TicketRealm$Book", cs_X0, by decide, rfl, fun h => absurd h (by decide), (zt_in (zt_t1 30 rfl) rfl), Or.inl rfl, fun h => absurd h (by decide)⟩
theorem fs_X9_199_5 : zw_FS RX9 199 5 1 0 (.int) := ⟨RX5, TX5, 3, tyX5, "TicketRealm$Proof", cs_X5, by decide, rfl, fun h => absurd h (by decide), (zt_in (zt_t2 0 rfl) rfl), Or.inl rfl, fun h => absurd h (by decide)⟩
theorem fs_X9_202_5 : zw_FS RX9 202 5 2 0 (.int) := ⟨RX5, TX5, 3, tyX5, "TicketRealm$Proof", cs_X5, by decide, rfl, fun h => absurd h (by decide), (zt_in (zt_t2 2 rfl) rfl), Or.inl rfl, fun h => absurd h (by decide)⟩
theorem fs_X9_220_6 : zw_FS RX9 220 6 2 0 (.int) := ⟨RX7, TX7, 6, tyX7, "TicketRealm$Ticket", cs_X7, by decide, rfl, fun h => absurd h (by decide), (zt_in (zt_t2 146 rfl) rfl), Or.inl rfl, fun h => absurd h (by decide)⟩
theorem fs_X9_227_6 : zw_FS RX9 227 6 1 0 (.int) := ⟨RX7, TX7, 6, tyX7, "TicketRealm$Ticket", cs_X7, by decide, rfl, fun h => absurd h (by decide), (zt_in (zt_t2 144 rfl) rfl), Or.inl rfl, fun h => absurd h (by decide)⟩
theorem fs_X9_228_1 : zw_FS RX9 228 1 1 0 (.int) := ⟨RX1, TX1, 5, tyX1, "TicketRealm$Claim", cs_X1, by decide, rfl, fun h => absurd h (by decide), (zt_in (zt_t2 59 rfl) rfl), Or.inl rfl, fun h => absurd h (by decide)⟩
theorem fs_X9_229_1 : zw_FS RX9 229 1 4 0 (.object "TicketRealm$Order") := ⟨RX1, TX1, 5, tyX1, "TicketRealm$Claim", cs_X1, by decide, rfl, fun h => absurd h (by decide), (zt_in (zt_t2 66 rfl) rfl), Or.inl rfl, fun h => absurd h (by decide)⟩
theorem fs_X9_233_3 : zw_FS RX9 233 3 0 0 (.int) := ⟨RX3, TX3, 3, tyX3, "TicketRealm$Order", cs_X3, by decide, rfl, fun h => absurd h (by decide), (zt_in (zt_t2 41 rfl) rfl), Or.inl rfl, fun h => absurd h (by decide)⟩
theorem fs_X9_236_1 : zw_FS RX9 236 1 2 0 (.int) := ⟨RX1, TX1, 5, tyX1, "TicketRealm$Claim", cs_X1, by decide, rfl, fun h => absurd h (by decide), (zt_in (zt_t2 62 rfl) rfl), Or.inl rfl, fun h => absurd h (by decide)⟩
theorem fs_X9_237_6 : zw_FS RX9 237 6 4 0 (.int) := ⟨RX7, TX7, 6, tyX7, "TicketRealm$Ticket", cs_X7, by decide, rfl, fun h => absurd h (by decide), (zt_in (zt_t2 150 rfl) rfl), Or.inl rfl, fun h => absurd h (by decide)⟩
theorem fs_X9_240_6 : zw_FS RX9 240 6 5 0 (.int) := ⟨RX7, TX7, 6, tyX7, "TicketRealm$Ticket", cs_X7, by decide, rfl, fun h => absurd h (by decide), (zt_in (zt_t2 152 rfl) rfl), Or.inl rfl, fun h => absurd h (by decide)⟩
theorem fs_X9_246_6 : zw_FS RX9 246 6 3 0 (.int) := ⟨RX7, TX7, 6, tyX7, "TicketRealm$Ticket", cs_X7, by decide, rfl, fun h => absurd h (by decide), (zt_in (zt_t2 148 rfl) rfl), Or.inl rfl, fun h => absurd h (by decide)⟩
theorem fs_X9_264_2 : zw_FS RX9 264 2 3 0 (.int) := ⟨RX2, TX2, 4, tyX2, "TicketRealm$FileService", cs_X2, by decide, rfl, fun h => absurd h (by decide), (zt_in (zt_t1 59 rfl) rfl), Or.inl rfl, fun h => absurd h (by decide)⟩
theorem fs_X9_267_1 : zw_FS RX9 267 1 0 0 (.int) := ⟨RX1, TX1, 5, tyX1, "TicketRealm$Seal", cs_X1, by decide, rfl, fun h => absurd h (by decide), (zt_in (zt_t2 6 rfl) rfl), Or.inl rfl, fun h => absurd h (by decide)⟩
theorem fs_X9_267_4 : zw_FS RX9 267 4 0 0 (.int) := ⟨RX4, TX4, 5, tyX4, "TicketRealm$Seal", cs_X4, by decide, rfl, fun h => absurd h (by decide), (zt_in (zt_t2 6 rfl) rfl), Or.inl rfl, fun h => absurd h (by decide)⟩
theorem fs_X9_267_5 : zw_FS RX9 267 5 0 0 (.int) := ⟨RX5, TX5, 3, tyX5, "TicketRealm$Seal", cs_X5, by decide, rfl, fun h => absurd h (by decide), (zt_in (zt_t2 6 rfl) rfl), Or.inl rfl, fun h => absurd h (by decide)⟩
theorem fs_X9_267_6 : zw_FS RX9 267 6 0 0 (.int) := ⟨RX7, TX7, 6, tyX7, "TicketRealm$Seal", cs_X7, by decide, rfl, fun h => absurd h (by decide), (zt_in (zt_t2 6 rfl) rfl), Or.inl rfl, fun h => absurd h (by decide)⟩
theorem fs_X9_289_2 : zw_FS RX9 289 2 0 0 (.array .int) := ⟨RX2, TX2, 4, tyX2, "TicketRealm$FileService", cs_X2, by decide, rfl, fun h => absurd h (by decide), (zt_in (zt_t1 54 rfl) rfl), Or.inl rfl, fun h => absurd h (by decide)⟩
theorem fs_X9_292_2 : zw_FS RX9 292 2 2 0 (.int) := ⟨RX2, TX2, 4, tyX2, "TicketRealm$FileService", cs_X2, by decide, rfl, fun h => absurd h (by decide), (zt_in (zt_t1 57 rfl) rfl), Or.inl rfl, fun h => absurd h (by decide)⟩
theorem fs_X9_320_7 : zw_FS RX9 320 7 4 0 (.array .int) := ⟨RX8, TX8, 6, tyX8, "TicketRealm$User", cs_X8, by decide, rfl, fun h => absurd h (by decide), (zt_in (zt_t1 90 rfl) rfl), Or.inl rfl, fun h => absurd h (by decide)⟩
theorem md_X0_init : zw_MD yX0_init cX0_init 2 none 0 := ⟨(zt_in (zt_t1 25 rfl) rfl), (zt_in (zt_t1 2 rfl) rfl), by decide, by decide, by decide +kernel⟩
theorem md_X0_holds : zw_MD yX0_holds cX0_holds 2 (some .boolean) 1 := ⟨(zt_in (zt_t1 166 rfl) rfl), (zt_in (zt_t1 2 rfl) rfl), by decide, by decide, by decide +kernel⟩
theorem md_X0_size : zw_MD yX0_size cX0_size 3 (some .int) 0 := ⟨(zt_in (zt_t1 199 rfl) rfl), (zt_in (zt_t1 2 rfl) rfl), by decide, by decide, by decide +kernel⟩
theorem md_X0_enter : zw_MD yX0_enter cX0_enter 4 none 2 := ⟨(zt_in (zt_t1 162 rfl) rfl), (zt_in (zt_t1 2 rfl) rfl), by decide, by decide, by decide +kernel⟩
theorem md_X0_strike : zw_MD yX0_strike cX0_strike 2 none 1 := ⟨(zt_in (zt_t1 176 rfl) rfl), (zt_in (zt_t1 2 rfl) rfl), by decide, by decide, by decide +kernel⟩
theorem md_X0_permits : zw_MD yX0_permits cX0_permits 3 (some .boolean) 2 := ⟨(zt_in (zt_t2 222 rfl) rfl), (zt_in (zt_t1 2 rfl) rfl), by decide, by decide, by decide +kernel⟩
theorem md_X0_copyFrom : zw_MD yX0_copyFrom cX0_copyFrom 4 none 1 := ⟨(zt_in (zt_t1 195 rfl) rfl), (zt_in (zt_t1 2 rfl) rfl), by decide, by decide, by decide +kernel⟩
theorem md_X1_init : zw_MD yX1_init cX1_init 6 none 5 := ⟨(zt_in (zt_t2 56 rfl) rfl), (zt_in (zt_t1 9 rfl) rfl), by decide, by decide, by decide +kernel⟩
theorem md_X1_kind : zw_MD yX1_kind cX1_kind 1 (some .int) 0 := ⟨(zt_in (zt_t3 36 rfl) rfl), (zt_in (zt_t1 9 rfl) rfl), by decide, by decide, by decide +kernel⟩
theorem md_X1_shownTime : zw_MD yX1_shownTime cX1_shownTime 1 (some .int) 0 := ⟨(zt_in (zt_t3 63 rfl) rfl), (zt_in (zt_t1 9 rfl) rfl), by decide, by decide, by decide +kernel⟩
theorem md_X1_sameAs : zw_MD yX1_sameAs cX1_sameAs 2 (some .boolean) 1 := ⟨(zt_in (zt_t2 214 rfl) rfl), (zt_in (zt_t1 9 rfl) rfl), by decide, by decide, by decide +kernel⟩
theorem md_X2_init : zw_MD yX2_init cX2_init 1 none 0 := ⟨(zt_in (zt_t1 49 rfl) rfl), (zt_in (zt_t1 3 rfl) rfl), by decide, by decide, by decide +kernel⟩
theorem md_X2_dropClaimsBefore : zw_MD yX2_dropClaimsBefore cX2_dropClaimsBefore 4 none 1 := ⟨(zt_in (zt_t2 206 rfl) rfl), (zt_in (zt_t1 3 rfl) rfl), by decide, by decide, by decide +kernel⟩
theorem md_X2_hasServed : zw_MD yX2_hasServed cX2_hasServed 3 (some .boolean) 1 := ⟨(zt_in (zt_t2 210 rfl) rfl), (zt_in (zt_t1 3 rfl) rfl), by decide, by decide, by decide +kernel⟩
theorem md_X2_cacheIsFull : zw_MD yX2_cacheIsFull cX2_cacheIsFull 1 (some .boolean) 0 := ⟨(zt_in (zt_t2 226 rfl) rfl), (zt_in (zt_t1 3 rfl) rfl), by decide, by decide, by decide +kernel⟩
theorem md_X2_carryOut : zw_MD yX2_carryOut cX2_carryOut 3 none 1 := ⟨(zt_in (zt_t2 230 rfl) rfl), (zt_in (zt_t1 3 rfl) rfl), by decide, by decide, by decide +kernel⟩
theorem md_X3_init : zw_MD yX3_init cX3_init 4 none 3 := ⟨(zt_in (zt_t2 36 rfl) rfl), (zt_in (zt_t1 10 rfl) rfl), by decide, by decide, by decide +kernel⟩
theorem md_X3_sameAs : zw_MD yX3_sameAs cX3_sameAs 2 (some .boolean) 1 := ⟨(zt_in (zt_t2 218 rfl) rfl), (zt_in (zt_t1 10 rfl) rfl), by decide, by decide, by decide +kernel⟩
theorem md_X4_init : zw_MD yX4_init cX4_init 6 none 5 := ⟨(zt_in (zt_t2 168 rfl) rfl), (zt_in (zt_t1 12 rfl) rfl), by decide, by decide, by decide +kernel⟩
theorem md_X4_kind : zw_MD yX4_kind cX4_kind 1 (some .int) 0 := ⟨(zt_in (zt_t3 39 rfl) rfl), (zt_in (zt_t1 12 rfl) rfl), by decide, by decide, by decide +kernel⟩
theorem md_X4_heldKey : zw_MD yX4_heldKey cX4_heldKey 1 (some .int) 0 := ⟨(zt_in (zt_t3 13 rfl) rfl), (zt_in (zt_t1 12 rfl) rfl), by decide, by decide, by decide +kernel⟩
theorem md_X4_shownEnd : zw_MD yX4_shownEnd cX4_shownEnd 1 (some .int) 0 := ⟨(zt_in (zt_t3 52 rfl) rfl), (zt_in (zt_t1 12 rfl) rfl), by decide, by decide, by decide +kernel⟩
theorem md_X5_init : zw_MD yX5_init cX5_init 4 none 3 := ⟨(zt_in (zt_t1 234 rfl) rfl), (zt_in (zt_t1 8 rfl) rfl), by decide, by decide, by decide +kernel⟩
theorem md_X5_kind : zw_MD yX5_kind cX5_kind 1 (some .int) 0 := ⟨(zt_in (zt_t3 42 rfl) rfl), (zt_in (zt_t1 8 rfl) rfl), by decide, by decide, by decide +kernel⟩
theorem md_X5_shownTime : zw_MD yX5_shownTime cX5_shownTime 1 (some .int) 0 := ⟨(zt_in (zt_t3 67 rfl) rfl), (zt_in (zt_t1 8 rfl) rfl), by decide, by decide, by decide +kernel⟩
theorem md_X6_init : zw_MD yX6_init cX6_init 2 none 1 := ⟨(zt_in (zt_t1 237 rfl) rfl), (zt_in (zt_t1 7 rfl) rfl), by decide, by decide, by decide +kernel⟩
theorem md_X6_heldKey : zw_MD yX6_heldKey cX6_heldKey 1 (some .int) 0 := ⟨(zt_in (zt_t3 18 rfl) rfl), (zt_in (zt_t1 7 rfl) rfl), by decide, by decide, by decide +kernel⟩
theorem md_X6_shownEnd : zw_MD yX6_shownEnd cX6_shownEnd 1 (some .int) 0 := ⟨(zt_in (zt_t3 57 rfl) rfl), (zt_in (zt_t1 7 rfl) rfl), by decide, by decide, by decide +kernel⟩
theorem md_X6_shownTime : zw_MD yX6_shownTime cX6_shownTime 1 (some .int) 0 := ⟨(zt_in (zt_t3 69 rfl) rfl), (zt_in (zt_t1 7 rfl) rfl), by decide, by decide, by decide +kernel⟩
theorem md_X7_init : zw_MD yX7_init cX7_init 7 none 6 := ⟨(zt_in (zt_t2 141 rfl) rfl), (zt_in (zt_t1 11 rfl) rfl), by decide, by decide, by decide +kernel⟩
theorem md_X7_kind : zw_MD yX7_kind cX7_kind 1 (some .int) 0 := ⟨(zt_in (zt_t3 45 rfl) rfl), (zt_in (zt_t1 11 rfl) rfl), by decide, by decide, by decide +kernel⟩
theorem md_X7_heldKey : zw_MD yX7_heldKey cX7_heldKey 1 (some .int) 0 := ⟨(zt_in (zt_t3 17 rfl) rfl), (zt_in (zt_t1 11 rfl) rfl), by decide, by decide, by decide +kernel⟩
theorem md_X7_shownEnd : zw_MD yX7_shownEnd cX7_shownEnd 1 (some .int) 0 := ⟨(zt_in (zt_t3 56 rfl) rfl), (zt_in (zt_t1 11 rfl) rfl), by decide, by decide, by decide +kernel⟩
theorem md_X8_init : zw_MD yX8_init cX8_init 2 none 0 := ⟨(zt_in (zt_t1 80 rfl) rfl), (zt_in (zt_t1 5 rfl) rfl), by decide, by decide, by decide +kernel⟩
theorem md_X8_hasRequest : zw_MD yX8_hasRequest cX8_hasRequest 1 (some .boolean) 0 := ⟨(zt_in (zt_t2 84 rfl) rfl), (zt_in (zt_t1 5 rfl) rfl), by decide, by decide, by decide +kernel⟩
theorem md_X8_hasCredential : zw_MD yX8_hasCredential cX8_hasCredential 2 (some .boolean) 1 := ⟨(zt_in (zt_t2 25 rfl) rfl), (zt_in (zt_t1 5 rfl) rfl), by decide, by decide, by decide +kernel⟩
theorem md_X8_openRequest : zw_MD yX8_openRequest cX8_openRequest 4 none 3 := ⟨(zt_in (zt_t1 229 rfl) rfl), (zt_in (zt_t1 5 rfl) rfl), by decide, by decide, by decide +kernel⟩
theorem md_X8_closeRequest : zw_MD yX8_closeRequest cX8_closeRequest 3 none 2 := ⟨(zt_in (zt_t2 101 rfl) rfl), (zt_in (zt_t1 5 rfl) rfl), by decide, by decide, by decide +kernel⟩
theorem md_X8_makeSerial : zw_MD yX8_makeSerial cX8_makeSerial 1 (some .int) 0 := ⟨(zt_in (zt_t2 31 rfl) rfl), (zt_in (zt_t1 5 rfl) rfl), by decide, by decide, by decide +kernel⟩
theorem md_X9_init : zw_MD yX9_init cX9_init 3 none 1 := ⟨(zt_in (zt_t1 17 rfl) rfl), (zt_in (zt_t1 1 rfl) rfl), by decide, by decide, by decide +kernel⟩
theorem md_X9_enrol : zw_MD yX9_enrol cX9_enrol 3 (some .int) 1 := ⟨(zt_in (zt_t1 147 rfl) rfl), (zt_in (zt_t1 1 rfl) rfl), by decide, by decide, by decide +kernel⟩
theorem md_X9_remove : zw_MD yX9_remove cX9_remove 2 (some .boolean) 1 := ⟨(zt_in (zt_t1 171 rfl) rfl), (zt_in (zt_t1 1 rfl) rfl), by decide, by decide, by decide +kernel⟩
theorem md_X9_limit : zw_MD yX9_limit cX9_limit 3 (some .boolean) 2 := ⟨(zt_in (zt_t1 180 rfl) rfl), (zt_in (zt_t1 1 rfl) rfl), by decide, by decide, by decide +kernel⟩
theorem md_X9_allow : zw_MD yX9_allow cX9_allow 4 (some .boolean) 3 := ⟨(zt_in (zt_t1 184 rfl) rfl), (zt_in (zt_t1 1 rfl) rfl), by decide, by decide, by decide +kernel⟩
theorem md_X9_save : zw_MD yX9_save cX9_save 1 (some .int) 0 := ⟨(zt_in (zt_t1 191 rfl) rfl), (zt_in (zt_t1 1 rfl) rfl), by decide, by decide, by decide +kernel⟩
theorem md_X9_crash : zw_MD yX9_crash cX9_crash 1 (some .int) 0 := ⟨(zt_in (zt_t1 203 rfl) rfl), (zt_in (zt_t1 1 rfl) rfl), by decide, by decide, by decide +kernel⟩
theorem md_X9_tick : zw_MD yX9_tick cX9_tick 3 (some .int) 2 := ⟨(zt_in (zt_t1 207 rfl) rfl), (zt_in (zt_t1 1 rfl) rfl), by decide, by decide, by decide +kernel⟩
theorem md_X9_login : zw_MD yX9_login cX9_login 4 (some .int) 2 := ⟨(zt_in (zt_t1 211 rfl) rfl), (zt_in (zt_t1 1 rfl) rfl), by decide, by decide, by decide +kernel⟩
theorem md_X9_ask : zw_MD yX9_ask cX9_ask 5 (some .int) 2 := ⟨(zt_in (zt_t2 21 rfl) rfl), (zt_in (zt_t1 1 rfl) rfl), by decide, by decide, by decide +kernel⟩
theorem md_X9_receive : zw_MD yX9_receive cX9_receive 6 (some .boolean) 3 := ⟨(zt_in (zt_t2 80 rfl) rfl), (zt_in (zt_t1 1 rfl) rfl), by decide, by decide, by decide +kernel⟩
theorem md_X9_order : zw_MD yX9_order cX9_order 7 (some .int) 4 := ⟨(zt_in (zt_t2 105 rfl) rfl), (zt_in (zt_t1 1 rfl) rfl), by decide, by decide, by decide +kernel⟩
theorem md_X9_issue : zw_MD yX9_issue cX9_issue 9 (some .int) 5 := ⟨(zt_in (zt_t2 109 rfl) rfl), (zt_in (zt_t1 1 rfl) rfl), by decide, by decide, by decide +kernel⟩
theorem md_X9_grant : zw_MD yX9_grant cX9_grant 12 (some .int) 5 := ⟨(zt_in (zt_t2 190 rfl) rfl), (zt_in (zt_t1 1 rfl) rfl), by decide, by decide, by decide +kernel⟩
theorem md_X9_serve : zw_MD yX9_serve cX9_serve 6 (some .int) 2 := ⟨(zt_in (zt_t2 202 rfl) rfl), (zt_in (zt_t1 1 rfl) rfl), by decide, by decide, by decide +kernel⟩
theorem md_X9_answer : zw_MD yX9_answer cX9_answer 1 (some .int) 0 := ⟨(zt_in (zt_t2 234 rfl) rfl), (zt_in (zt_t1 1 rfl) rfl), by decide, by decide, by decide +kernel⟩
theorem md_X9_steal : zw_MD yX9_steal cX9_steal 2 (some .int) 1 := ⟨(zt_in (zt_t2 238 rfl) rfl), (zt_in (zt_t1 1 rfl) rfl), by decide, by decide, by decide +kernel⟩
theorem md_X9_learn : zw_MD yX9_learn cX9_learn 4 (some .int) 1 := ⟨(zt_in (zt_t3 2 rfl) rfl), (zt_in (zt_t1 1 rfl) rfl), by decide, by decide, by decide +kernel⟩
theorem md_X9_forge : zw_MD yX9_forge cX9_forge 7 (some .int) 5 := ⟨(zt_in (zt_t3 22 rfl) rfl), (zt_in (zt_t1 1 rfl) rfl), by decide, by decide, by decide +kernel⟩
theorem md_X9_seal : zw_MD yX9_seal cX9_seal 4 (some .int) 2 := ⟨(zt_in (zt_t3 30 rfl) rfl), (zt_in (zt_t1 1 rfl) rfl), by decide, by decide, by decide +kernel⟩
theorem md_X9_look : zw_MD yX9_look cX9_look 3 (some .int) 2 := ⟨(zt_in (zt_t3 73 rfl) rfl), (zt_in (zt_t1 1 rfl) rfl), by decide, by decide, by decide +kernel⟩
theorem md_X9_isPrincipal : zw_MD yX9_isPrincipal cX9_isPrincipal 1 (some .boolean) 1 := ⟨(zt_in (zt_t1 150 rfl) rfl), (zt_in (zt_t1 1 rfl) rfl), by decide, by decide, by decide +kernel⟩
theorem md_X9_isUser : zw_MD yX9_isUser cX9_isUser 1 (some .boolean) 1 := ⟨(zt_in (zt_t1 218 rfl) rfl), (zt_in (zt_t1 1 rfl) rfl), by decide, by decide, by decide +kernel⟩
theorem md_X9_isTarget : zw_MD yX9_isTarget cX9_isTarget 1 (some .boolean) 1 := ⟨(zt_in (zt_t1 221 rfl) rfl), (zt_in (zt_t1 1 rfl) rfl), by decide, by decide, by decide +kernel⟩
theorem md_X9_isFile : zw_MD yX9_isFile cX9_isFile 1 (some .boolean) 1 := ⟨(zt_in (zt_t1 187 rfl) rfl), (zt_in (zt_t1 1 rfl) rfl), by decide, by decide, by decide +kernel⟩
theorem md_X9_isUserInBook : zw_MD yX9_isUserInBook cX9_isUserInBook 2 (some .boolean) 1 := ⟨(zt_in (zt_t2 113 rfl) rfl), (zt_in (zt_t1 1 rfl) rfl), by decide, by decide, by decide +kernel⟩
theorem md_X9_isTargetInBook : zw_MD yX9_isTargetInBook cX9_isTargetInBook 2 (some .boolean) 1 := ⟨(zt_in (zt_t2 117 rfl) rfl), (zt_in (zt_t1 1 rfl) rfl), by decide, by decide, by decide +kernel⟩
theorem md_X9_isStolen : zw_MD yX9_isStolen cX9_isStolen 2 (some .boolean) 1 := ⟨(zt_in (zt_t3 6 rfl) rfl), (zt_in (zt_t1 1 rfl) rfl), by decide, by decide, by decide +kernel⟩
theorem md_X9_userAt : zw_MD yX9_userAt cX9_userAt 2 (some (.object "TicketRealm$User")) 1 := ⟨(zt_in (zt_t1 215 rfl) rfl), (zt_in (zt_t1 1 rfl) rfl), by decide, by decide, by decide +kernel⟩
theorem md_X9_near : zw_MD yX9_near cX9_near 3 (some .boolean) 2 := ⟨(zt_in (zt_t2 125 rfl) rfl), (zt_in (zt_t1 1 rfl) rfl), by decide, by decide, by decide +kernel⟩
theorem md_X9_hasRoom : zw_MD yX9_hasRoom cX9_hasRoom 3 (some .boolean) 2 := ⟨(zt_in (zt_t1 154 rfl) rfl), (zt_in (zt_t1 1 rfl) rfl), by decide, by decide, by decide +kernel⟩
theorem md_X9_makeKey : zw_MD yX9_makeKey cX9_makeKey 2 (some .int) 0 := ⟨(zt_in (zt_t1 158 rfl) rfl), (zt_in (zt_t1 1 rfl) rfl), by decide, by decide, by decide +kernel⟩
theorem md_X9_makeNonce : zw_MD yX9_makeNonce cX9_makeNonce 1 (some .int) 0 := ⟨(zt_in (zt_t1 225 rfl) rfl), (zt_in (zt_t1 1 rfl) rfl), by decide, by decide, by decide +kernel⟩
theorem md_X9_keep : zw_MD yX9_keep cX9_keep 3 (some .int) 1 := ⟨(zt_in (zt_t2 17 rfl) rfl), (zt_in (zt_t1 1 rfl) rfl), by decide, by decide, by decide +kernel⟩
theorem md_X9_sealAt : zw_MD yX9_sealAt cX9_sealAt 2 (some (.object "TicketRealm$Seal")) 1 := ⟨(zt_in (zt_t2 88 rfl) rfl), (zt_in (zt_t1 1 rfl) rfl), by decide, by decide, by decide +kernel⟩
theorem md_X9_open : zw_MD yX9_open cX9_open 4 (some (.object "TicketRealm$Seal")) 2 := ⟨(zt_in (zt_t2 96 rfl) rfl), (zt_in (zt_t1 1 rfl) rfl), by decide, by decide, by decide +kernel⟩
theorem md_X9_openProof : zw_MD yX9_openProof cX9_openProof 5 (some (.object "TicketRealm$Proof")) 2 := ⟨(zt_in (zt_t2 121 rfl) rfl), (zt_in (zt_t1 1 rfl) rfl), by decide, by decide, by decide +kernel⟩
theorem md_X9_openTicket : zw_MD yX9_openTicket cX9_openTicket 5 (some (.object "TicketRealm$Ticket")) 2 := ⟨(zt_in (zt_t2 194 rfl) rfl), (zt_in (zt_t1 1 rfl) rfl), by decide, by decide, by decide +kernel⟩
theorem md_X9_openPart : zw_MD yX9_openPart cX9_openPart 5 (some (.object "TicketRealm$Part")) 2 := ⟨(zt_in (zt_t2 92 rfl) rfl), (zt_in (zt_t1 1 rfl) rfl), by decide, by decide, by decide +kernel⟩
theorem md_X9_openClaim : zw_MD yX9_openClaim cX9_openClaim 5 (some (.object "TicketRealm$Claim")) 2 := ⟨(zt_in (zt_t2 198 rfl) rfl), (zt_in (zt_t1 1 rfl) rfl), by decide, by decide, by decide +kernel⟩
theorem md_X9_firstEnd : zw_MD yX9_firstEnd cX9_firstEnd 5 (some .int) 3 := ⟨(zt_in (zt_t2 132 rfl) rfl), (zt_in (zt_t1 1 rfl) rfl), by decide, by decide, by decide +kernel⟩
theorem md_X9_makeTicketAndPart : zw_MD yX9_makeTicketAndPart cX9_makeTicketAndPart 9 (some .int) 6 := ⟨(zt_in (zt_t2 136 rfl) rfl), (zt_in (zt_t1 1 rfl) rfl), by decide, by decide, by decide +kernel⟩
theorem md_X9_forgedSeal : zw_MD yX9_forgedSeal cX9_forgedSeal 5 (some (.object "TicketRealm$Seal")) 5 := ⟨(zt_in (zt_t3 25 rfl) rfl), (zt_in (zt_t1 1 rfl) rfl), by decide, by decide, by decide +kernel⟩
theorem md_X9_openNonce : zw_MD yX9_openNonce cX9_openNonce 3 (some .int) 1 := ⟨(zt_in (zt_t3 77 rfl) rfl), (zt_in (zt_t1 1 rfl) rfl), by decide, by decide, by decide +kernel⟩
theorem md_X9_heldTicket : zw_MD yX9_heldTicket cX9_heldTicket 4 (some .int) 2 := ⟨(zt_in (zt_t3 81 rfl) rfl), (zt_in (zt_t1 1 rfl) rfl), by decide, by decide, by decide +kernel⟩
theorem md_X10_init : zw_MD yX10_init cX10_init 3 none 1 := ⟨(zt_in (zt_t3 89 rfl) rfl), (zt_in (zt_t1 6 rfl) rfl), by decide, by decide, by decide +kernel⟩
theorem md_X10_in : zw_MD yX10_in cX10_in 3 (some .boolean) 3 := ⟨(zt_in (zt_t3 188 rfl) rfl), (zt_in (zt_t1 6 rfl) rfl), by decide, by decide, by decide +kernel⟩
theorem md_X10_booked : zw_MD yX10_booked cX10_booked 2 (some .boolean) 1 := ⟨(zt_in (zt_t3 196 rfl) rfl), (zt_in (zt_t1 6 rfl) rfl), by decide, by decide, by decide +kernel⟩
theorem md_X10_user : zw_MD yX10_user cX10_user 2 (some .boolean) 1 := ⟨(zt_in (zt_t3 228 rfl) rfl), (zt_in (zt_t1 6 rfl) rfl), by decide, by decide, by decide +kernel⟩
theorem md_X10_near : zw_MD yX10_near cX10_near 5 (some .boolean) 2 := ⟨(zt_in (zt_t4 28 rfl) rfl), (zt_in (zt_t1 6 rfl) rfl), by decide, by decide, by decide +kernel⟩
theorem md_X10_enrol : zw_MD yX10_enrol cX10_enrol 3 (some .int) 1 := ⟨(zt_in (zt_t3 185 rfl) rfl), (zt_in (zt_t1 6 rfl) rfl), by decide, by decide, by decide +kernel⟩
theorem md_X10_remove : zw_MD yX10_remove cX10_remove 3 (some .boolean) 1 := ⟨(zt_in (zt_t3 192 rfl) rfl), (zt_in (zt_t1 6 rfl) rfl), by decide, by decide, by decide +kernel⟩
theorem md_X10_limit : zw_MD yX10_limit cX10_limit 3 (some .boolean) 2 := ⟨(zt_in (zt_t3 200 rfl) rfl), (zt_in (zt_t1 6 rfl) rfl), by decide, by decide, by decide +kernel⟩
theorem md_X10_allow : zw_MD yX10_allow cX10_allow 4 (some .boolean) 3 := ⟨(zt_in (zt_t3 204 rfl) rfl), (zt_in (zt_t1 6 rfl) rfl), by decide, by decide, by decide +kernel⟩
theorem md_X10_copyBook : zw_MD yX10_copyBook cX10_copyBook 6 (some .int) 2 := ⟨(zt_in (zt_t3 212 rfl) rfl), (zt_in (zt_t1 6 rfl) rfl), by decide, by decide, by decide +kernel⟩
theorem md_X10_save : zw_MD yX10_save cX10_save 1 (some .int) 0 := ⟨(zt_in (zt_t3 208 rfl) rfl), (zt_in (zt_t1 6 rfl) rfl), by decide, by decide, by decide +kernel⟩
theorem md_X10_crash : zw_MD yX10_crash cX10_crash 1 (some .int) 0 := ⟨(zt_in (zt_t3 216 rfl) rfl), (zt_in (zt_t1 6 rfl) rfl), by decide, by decide, by decide +kernel⟩
theorem md_X10_tick : zw_MD yX10_tick cX10_tick 3 (some .int) 2 := ⟨(zt_in (zt_t3 220 rfl) rfl), (zt_in (zt_t1 6 rfl) rfl), by decide, by decide, by decide +kernel⟩
theorem md_X10_make : zw_MD yX10_make cX10_make 5 (some .int) 4 := ⟨(zt_in (zt_t4 0 rfl) rfl), (zt_in (zt_t1 6 rfl) rfl), by decide, by decide, by decide +kernel⟩
theorem md_X10_makeProof : zw_MD yX10_makeProof cX10_makeProof 5 (some .int) 3 := ⟨(zt_in (zt_t3 236 rfl) rfl), (zt_in (zt_t1 6 rfl) rfl), by decide, by decide, by decide +kernel⟩
theorem md_X10_makeTicket : zw_MD yX10_makeTicket cX10_makeTicket 8 (some .int) 6 := ⟨(zt_in (zt_t4 39 rfl) rfl), (zt_in (zt_t1 6 rfl) rfl), by decide, by decide, by decide +kernel⟩
theorem md_X10_makePart : zw_MD yX10_makePart cX10_makePart 7 (some .int) 5 := ⟨(zt_in (zt_t4 43 rfl) rfl), (zt_in (zt_t1 6 rfl) rfl), by decide, by decide, by decide +kernel⟩
theorem md_X10_makeClaim : zw_MD yX10_makeClaim cX10_makeClaim 6 (some .int) 4 := ⟨(zt_in (zt_t4 8 rfl) rfl), (zt_in (zt_t1 6 rfl) rfl), by decide, by decide, by decide +kernel⟩
theorem md_X10_opens : zw_MD yX10_opens cX10_opens 4 (some .boolean) 3 := ⟨(zt_in (zt_t4 16 rfl) rfl), (zt_in (zt_t1 6 rfl) rfl), by decide, by decide, by decide +kernel⟩
theorem md_X10_request : zw_MD yX10_request cX10_request 4 none 3 := ⟨(zt_in (zt_t3 232 rfl) rfl), (zt_in (zt_t1 6 rfl) rfl), by decide, by decide, by decide +kernel⟩
theorem md_X10_login : zw_MD yX10_login cX10_login 3 (some .int) 2 := ⟨(zt_in (zt_t3 224 rfl) rfl), (zt_in (zt_t1 6 rfl) rfl), by decide, by decide, by decide +kernel⟩
theorem md_X10_ask : zw_MD yX10_ask cX10_ask 3 (some .int) 2 := ⟨(zt_in (zt_t4 4 rfl) rfl), (zt_in (zt_t1 6 rfl) rfl), by decide, by decide, by decide +kernel⟩
theorem md_X10_receive : zw_MD yX10_receive cX10_receive 4 (some .boolean) 3 := ⟨(zt_in (zt_t4 12 rfl) rfl), (zt_in (zt_t1 6 rfl) rfl), by decide, by decide, by decide +kernel⟩
theorem md_X10_order : zw_MD yX10_order cX10_order 6 (some .int) 4 := ⟨(zt_in (zt_t4 20 rfl) rfl), (zt_in (zt_t1 6 rfl) rfl), by decide, by decide, by decide +kernel⟩
theorem md_X10_least : zw_MD yX10_least cX10_least 2 (some .int) 2 := ⟨(zt_in (zt_t4 31 rfl) rfl), (zt_in (zt_t1 6 rfl) rfl), by decide, by decide, by decide +kernel⟩
theorem md_X10_bothSeals : zw_MD yX10_bothSeals cX10_bothSeals 8 (some .int) 6 := ⟨(zt_in (zt_t4 35 rfl) rfl), (zt_in (zt_t1 6 rfl) rfl), by decide, by decide, by decide +kernel⟩
theorem md_X10_issue : zw_MD yX10_issue cX10_issue 8 (some .int) 5 := ⟨(zt_in (zt_t4 24 rfl) rfl), (zt_in (zt_t1 6 rfl) rfl), by decide, by decide, by decide +kernel⟩
theorem md_X10_grant : zw_MD yX10_grant cX10_grant 9 (some .int) 5 := ⟨(zt_in (zt_t4 47 rfl) rfl), (zt_in (zt_t1 6 rfl) rfl), by decide, by decide, by decide +kernel⟩
theorem md_X10_forgetOld : zw_MD yX10_forgetOld cX10_forgetOld 3 none 0 := ⟨(zt_in (zt_t4 55 rfl) rfl), (zt_in (zt_t1 6 rfl) rfl), by decide, by decide, by decide +kernel⟩
theorem md_X10_same : zw_MD yX10_same cX10_same 4 (some .boolean) 2 := ⟨(zt_in (zt_t4 59 rfl) rfl), (zt_in (zt_t1 6 rfl) rfl), by decide, by decide, by decide +kernel⟩
theorem md_X10_serve : zw_MD yX10_serve cX10_serve 7 (some .int) 2 := ⟨(zt_in (zt_t4 51 rfl) rfl), (zt_in (zt_t1 6 rfl) rfl), by decide, by decide, by decide +kernel⟩
theorem md_X10_answer : zw_MD yX10_answer cX10_answer 1 (some .int) 0 := ⟨(zt_in (zt_t4 63 rfl) rfl), (zt_in (zt_t1 6 rfl) rfl), by decide, by decide, by decide +kernel⟩
theorem md_X10_steal : zw_MD yX10_steal cX10_steal 2 (some .int) 1 := ⟨(zt_in (zt_t4 67 rfl) rfl), (zt_in (zt_t1 6 rfl) rfl), by decide, by decide, by decide +kernel⟩
theorem md_X10_learn : zw_MD yX10_learn cX10_learn 2 (some .int) 1 := ⟨(zt_in (zt_t4 71 rfl) rfl), (zt_in (zt_t1 6 rfl) rfl), by decide, by decide, by decide +kernel⟩
theorem md_X10_isStolen : zw_MD yX10_isStolen cX10_isStolen 2 (some .boolean) 1 := ⟨(zt_in (zt_t4 79 rfl) rfl), (zt_in (zt_t1 6 rfl) rfl), by decide, by decide, by decide +kernel⟩
theorem md_X10_forge : zw_MD yX10_forge cX10_forge 7 (some .int) 5 := ⟨(zt_in (zt_t4 75 rfl) rfl), (zt_in (zt_t1 6 rfl) rfl), by decide, by decide, by decide +kernel⟩
theorem md_X10_seal : zw_MD yX10_seal cX10_seal 4 (some .int) 2 := ⟨(zt_in (zt_t4 84 rfl) rfl), (zt_in (zt_t1 6 rfl) rfl), by decide, by decide, by decide +kernel⟩
theorem md_X10_look : zw_MD yX10_look cX10_look 3 (some .int) 2 := ⟨(zt_in (zt_t4 88 rfl) rfl), (zt_in (zt_t1 6 rfl) rfl), by decide, by decide, by decide +kernel⟩
theorem md_J9_abs_067f4 : zw_MD yJ9_abs_067f4 cJ9_abs_067f4 2 (some .long) 1 := ⟨(zt_in (zt_t2 128 rfl) rfl), (zt_in (zt_t1 4 rfl) rfl), by decide, by decide, by decide +kernel⟩
theorem md_J9_max_7cf53 : zw_MD yJ9_max_7cf53 cJ9_max_7cf53 2 (some .int) 2 := ⟨(zt_in (zt_t1 76 rfl) rfl), (zt_in (zt_t1 4 rfl) rfl), by decide, by decide, by decide +kernel⟩
theorem md_J9_min_7cf53 : zw_MD yJ9_min_7cf53 cJ9_min_7cf53 2 (some .int) 2 := ⟨(zt_in (zt_t1 73 rfl) rfl), (zt_in (zt_t1 4 rfl) rfl), by decide, by decide, by decide +kernel⟩
theorem md_L_cell : zw_MD yL_cell cL_cell 2 (some .int) 2 := ⟨(zt_in (zt_t3 84 rfl) rfl), (zt_in (zt_t1 0 rfl) rfl), by decide, by decide, by decide +kernel⟩
theorem ms_L_15 : Cond.methodLink RL 15 yX9_init ∈ zt_good ∧ Cond.instanceMethod yX9_init ∈ zt_good := ⟨(zt_in (zt_t1 15 rfl) rfl), (zt_in (zt_t1 16 rfl) rfl)⟩
theorem ms_L_20 : Cond.methodLink RL 20 yX10_init ∈ zt_good ∧ Cond.instanceMethod yX10_init ∈ zt_good := ⟨(zt_in (zt_t3 87 rfl) rfl), (zt_in (zt_t3 88 rfl) rfl)⟩
theorem ms_L_9 : Cond.methodLink RL 9 yL_cell ∈ zt_good ∧ Cond.static yL_cell ∈ zt_good := ⟨(zt_in (zt_t3 82 rfl) rfl), (zt_in (zt_t3 83 rfl) rfl)⟩
theorem ms_L_21 : Cond.methodLink RL 21 yX9_enrol ∈ zt_good ∧ Cond.instanceMethod yX9_enrol ∈ zt_good ∧ Cond.selects yX9_enrol.cls yX9_enrol yX9_enrol ∈ zt_good := ⟨(zt_in (zt_t1 144 rfl) rfl), (zt_in (zt_t1 145 rfl) rfl), (zt_in (zt_t1 146 rfl) rfl)⟩
theorem ms_L_25 : Cond.methodLink RL 25 yX10_enrol ∈ zt_good ∧ Cond.instanceMethod yX10_enrol ∈ zt_good ∧ Cond.selects yX10_enrol.cls yX10_enrol yX10_enrol ∈ zt_good := ⟨(zt_in (zt_t3 182 rfl) rfl), (zt_in (zt_t3 183 rfl) rfl), (zt_in (zt_t3 184 rfl) rfl)⟩
theorem ms_L_26 : Cond.methodLink RL 26 yX9_remove ∈ zt_good ∧ Cond.instanceMethod yX9_remove ∈ zt_good ∧ Cond.selects yX9_remove.cls yX9_remove yX9_remove ∈ zt_good := ⟨(zt_in (zt_t1 168 rfl) rfl), (zt_in (zt_t1 169 rfl) rfl), (zt_in (zt_t1 170 rfl) rfl)⟩
theorem ms_L_30 : Cond.methodLink RL 30 yX10_remove ∈ zt_good ∧ Cond.instanceMethod yX10_remove ∈ zt_good ∧ Cond.selects yX10_remove.cls yX10_remove yX10_remove ∈ zt_good := ⟨(zt_in (zt_t3 189 rfl) rfl), (zt_in (zt_t3 190 rfl) rfl), (zt_in (zt_t3 191 rfl) rfl)⟩
theorem ms_L_31 : Cond.methodLink RL 31 yX9_limit ∈ zt_good ∧ Cond.instanceMethod yX9_limit ∈ zt_good ∧ Cond.selects yX9_limit.cls yX9_limit yX9_limit ∈ zt_good := ⟨(zt_in (zt_t1 177 rfl) rfl), (zt_in (zt_t1 178 rfl) rfl), (zt_in (zt_t1 179 rfl) rfl)⟩
theorem ms_L_35 : Cond.methodLink RL 35 yX10_limit ∈ zt_good ∧ Cond.instanceMethod yX10_limit ∈ zt_good ∧ Cond.selects yX10_limit.cls yX10_limit yX10_limit ∈ zt_good := ⟨(zt_in (zt_t3 197 rfl) rfl), (zt_in (zt_t3 198 rfl) rfl), (zt_in (zt_t3 199 rfl) rfl)⟩
theorem ms_L_36 : Cond.methodLink RL 36 yX9_allow ∈ zt_good ∧ Cond.instanceMethod yX9_allow ∈ zt_good ∧ Cond.selects yX9_allow.cls yX9_allow yX9_allow ∈ zt_good := ⟨(zt_in (zt_t1 181 rfl) rfl), (zt_in (zt_t1 182 rfl) rfl), (zt_in (zt_t1 183 rfl) rfl)⟩
theorem ms_L_40 : Cond.methodLink RL 40 yX10_allow ∈ zt_good ∧ Cond.instanceMethod yX10_allow ∈ zt_good ∧ Cond.selects yX10_allow.cls yX10_allow yX10_allow ∈ zt_good := ⟨(zt_in (zt_t3 201 rfl) rfl), (zt_in (zt_t3 202 rfl) rfl), (zt_in (zt_t3 203 rfl) rfl)⟩
theorem ms_L_41 : Cond.methodLink RL 41 yX9_save ∈ zt_good ∧ Cond.instanceMethod yX9_save ∈ zt_good ∧ Cond.selects yX9_save.cls yX9_save yX9_save ∈ zt_good := ⟨(zt_in (zt_t1 188 rfl) rfl), (zt_in (zt_t1 189 rfl) rfl), (zt_in (zt_t1 190 rfl) rfl)⟩
theorem ms_L_45 : Cond.methodLink RL 45 yX10_save ∈ zt_good ∧ Cond.instanceMethod yX10_save ∈ zt_good ∧ Cond.selects yX10_save.cls yX10_save yX10_save ∈ zt_good := ⟨(zt_in (zt_t3 205 rfl) rfl), (zt_in (zt_t3 206 rfl) rfl), (zt_in (zt_t3 207 rfl) rfl)⟩
theorem ms_L_46 : Cond.methodLink RL 46 yX9_crash ∈ zt_good ∧ Cond.instanceMethod yX9_crash ∈ zt_good ∧ Cond.selects yX9_crash.cls yX9_crash yX9_crash ∈ zt_good := ⟨(zt_in (zt_t1 200 rfl) rfl), (zt_in (zt_t1 201 rfl) rfl), (zt_in (zt_t1 202 rfl) rfl)⟩
theorem ms_L_49 : Cond.methodLink RL 49 yX10_crash ∈ zt_good ∧ Cond.instanceMethod yX10_crash ∈ zt_good ∧ Cond.selects yX10_crash.cls yX10_crash yX10_crash ∈ zt_good := ⟨(zt_in (zt_t3 213 rfl) rfl), (zt_in (zt_t3 214 rfl) rfl), (zt_in (zt_t3 215 rfl) rfl)⟩
theorem ms_L_50 : Cond.methodLink RL 50 yX9_tick ∈ zt_good ∧ Cond.instanceMethod yX9_tick ∈ zt_good ∧ Cond.selects yX9_tick.cls yX9_tick yX9_tick ∈ zt_good := ⟨(zt_in (zt_t1 204 rfl) rfl), (zt_in (zt_t1 205 rfl) rfl), (zt_in (zt_t1 206 rfl) rfl)⟩
theorem ms_L_54 : Cond.methodLink RL 54 yX10_tick ∈ zt_good ∧ Cond.instanceMethod yX10_tick ∈ zt_good ∧ Cond.selects yX10_tick.cls yX10_tick yX10_tick ∈ zt_good := ⟨(zt_in (zt_t3 217 rfl) rfl), (zt_in (zt_t3 218 rfl) rfl), (zt_in (zt_t3 219 rfl) rfl)⟩
theorem ms_L_55 : Cond.methodLink RL 55 yX9_login ∈ zt_good ∧ Cond.instanceMethod yX9_login ∈ zt_good ∧ Cond.selects yX9_login.cls yX9_login yX9_login ∈ zt_good := ⟨(zt_in (zt_t1 208 rfl) rfl), (zt_in (zt_t1 209 rfl) rfl), (zt_in (zt_t1 210 rfl) rfl)⟩
theorem ms_L_58 : Cond.methodLink RL 58 yX10_login ∈ zt_good ∧ Cond.instanceMethod yX10_login ∈ zt_good ∧ Cond.selects yX10_login.cls yX10_login yX10_login ∈ zt_good := ⟨(zt_in (zt_t3 221 rfl) rfl), (zt_in (zt_t3 222 rfl) rfl), (zt_in (zt_t3 223 rfl) rfl)⟩
theorem ms_L_59 : Cond.methodLink RL 59 yX9_ask ∈ zt_good ∧ Cond.instanceMethod yX9_ask ∈ zt_good ∧ Cond.selects yX9_ask.cls yX9_ask yX9_ask ∈ zt_good := ⟨(zt_in (zt_t2 18 rfl) rfl), (zt_in (zt_t2 19 rfl) rfl), (zt_in (zt_t2 20 rfl) rfl)⟩
theorem ms_L_62 : Cond.methodLink RL 62 yX10_ask ∈ zt_good ∧ Cond.instanceMethod yX10_ask ∈ zt_good ∧ Cond.selects yX10_ask.cls yX10_ask yX10_ask ∈ zt_good := ⟨(zt_in (zt_t4 1 rfl) rfl), (zt_in (zt_t4 2 rfl) rfl), (zt_in (zt_t4 3 rfl) rfl)⟩
theorem ms_L_63 : Cond.methodLink RL 63 yX9_receive ∈ zt_good ∧ Cond.instanceMethod yX9_receive ∈ zt_good ∧ Cond.selects yX9_receive.cls yX9_receive yX9_receive ∈ zt_good := ⟨(zt_in (zt_t2 77 rfl) rfl), (zt_in (zt_t2 78 rfl) rfl), (zt_in (zt_t2 79 rfl) rfl)⟩
theorem ms_L_66 : Cond.methodLink RL 66 yX10_receive ∈ zt_good ∧ Cond.instanceMethod yX10_receive ∈ zt_good ∧ Cond.selects yX10_receive.cls yX10_receive yX10_receive ∈ zt_good := ⟨(zt_in (zt_t4 9 rfl) rfl), (zt_in (zt_t4 10 rfl) rfl), (zt_in (zt_t4 11 rfl) rfl)⟩
theorem ms_L_67 : Cond.methodLink RL 67 yX9_order ∈ zt_good ∧ Cond.instanceMethod yX9_order ∈ zt_good ∧ Cond.selects yX9_order.cls yX9_order yX9_order ∈ zt_good := ⟨(zt_in (zt_t2 102 rfl) rfl), (zt_in (zt_t2 103 rfl) rfl), (zt_in (zt_t2 104 rfl) rfl)⟩
theorem ms_L_71 : Cond.methodLink RL 71 yX10_order ∈ zt_good ∧ Cond.instanceMethod yX10_order ∈ zt_good ∧ Cond.selects yX10_order.cls yX10_order yX10_order ∈ zt_good := ⟨(zt_in (zt_t4 17 rfl) rfl), (zt_in (zt_t4 18 rfl) rfl), (zt_in (zt_t4 19 rfl) rfl)⟩
theorem ms_L_72 : Cond.methodLink RL 72 yX9_issue ∈ zt_good ∧ Cond.instanceMethod yX9_issue ∈ zt_good ∧ Cond.selects yX9_issue.cls yX9_issue yX9_issue ∈ zt_good := ⟨(zt_in (zt_t2 106 rfl) rfl), (zt_in (zt_t2 107 rfl) rfl), (zt_in (zt_t2 108 rfl) rfl)⟩
theorem ms_L_76 : Cond.methodLink RL 76 yX10_issue ∈ zt_good ∧ Cond.instanceMethod yX10_issue ∈ zt_good ∧ Cond.selects yX10_issue.cls yX10_issue yX10_issue ∈ zt_good := ⟨(zt_in (zt_t4 21 rfl) rfl), (zt_in (zt_t4 22 rfl) rfl), (zt_in (zt_t4 23 rfl) rfl)⟩
theorem ms_L_77 : Cond.methodLink RL 77 yX9_grant ∈ zt_good ∧ Cond.instanceMethod yX9_grant ∈ zt_good ∧ Cond.selects yX9_grant.cls yX9_grant yX9_grant ∈ zt_good := ⟨(zt_in (zt_t2 187 rfl) rfl), (zt_in (zt_t2 188 rfl) rfl), (zt_in (zt_t2 189 rfl) rfl)⟩
theorem ms_L_80 : Cond.methodLink RL 80 yX10_grant ∈ zt_good ∧ Cond.instanceMethod yX10_grant ∈ zt_good ∧ Cond.selects yX10_grant.cls yX10_grant yX10_grant ∈ zt_good := ⟨(zt_in (zt_t4 44 rfl) rfl), (zt_in (zt_t4 45 rfl) rfl), (zt_in (zt_t4 46 rfl) rfl)⟩
theorem ms_L_81 : Cond.methodLink RL 81 yX9_serve ∈ zt_good ∧ Cond.instanceMethod yX9_serve ∈ zt_good ∧ Cond.selects yX9_serve.cls yX9_serve yX9_serve ∈ zt_good := ⟨(zt_in (zt_t2 199 rfl) rfl), (zt_in (zt_t2 200 rfl) rfl), (zt_in (zt_t2 201 rfl) rfl)⟩
theorem ms_L_84 : Cond.methodLink RL 84 yX10_serve ∈ zt_good ∧ Cond.instanceMethod yX10_serve ∈ zt_good ∧ Cond.selects yX10_serve.cls yX10_serve yX10_serve ∈ zt_good := ⟨(zt_in (zt_t4 48 rfl) rfl), (zt_in (zt_t4 49 rfl) rfl), (zt_in (zt_t4 50 rfl) rfl)⟩
theorem ms_L_85 : Cond.methodLink RL 85 yX9_answer ∈ zt_good ∧ Cond.instanceMethod yX9_answer ∈ zt_good ∧ Cond.selects yX9_answer.cls yX9_answer yX9_answer ∈ zt_good := ⟨(zt_in (zt_t2 231 rfl) rfl), (zt_in (zt_t2 232 rfl) rfl), (zt_in (zt_t2 233 rfl) rfl)⟩
theorem ms_L_88 : Cond.methodLink RL 88 yX10_answer ∈ zt_good ∧ Cond.instanceMethod yX10_answer ∈ zt_good ∧ Cond.selects yX10_answer.cls yX10_answer yX10_answer ∈ zt_good := ⟨(zt_in (zt_t4 60 rfl) rfl), (zt_in (zt_t4 61 rfl) rfl), (zt_in (zt_t4 62 rfl) rfl)⟩
theorem ms_L_89 : Cond.methodLink RL 89 yX9_steal ∈ zt_good ∧ Cond.instanceMethod yX9_steal ∈ zt_good ∧ Cond.selects yX9_steal.cls yX9_steal yX9_steal ∈ zt_good := ⟨(zt_in (zt_t2 235 rfl) rfl), (zt_in (zt_t2 236 rfl) rfl), (zt_in (zt_t2 237 rfl) rfl)⟩
theorem ms_L_92 : Cond.methodLink RL 92 yX10_steal ∈ zt_good ∧ Cond.instanceMethod yX10_steal ∈ zt_good ∧ Cond.selects yX10_steal.cls yX10_steal yX10_steal ∈ zt_good := ⟨(zt_in (zt_t4 64 rfl) rfl), (zt_in (zt_t4 65 rfl) rfl), (zt_in (zt_t4 66 rfl) rfl)⟩
theorem ms_L_93 : Cond.methodLink RL 93 yX9_learn ∈ zt_good ∧ Cond.instanceMethod yX9_learn ∈ zt_good ∧ Cond.selects yX9_learn.cls yX9_learn yX9_learn ∈ zt_good := ⟨(zt_in (zt_t2 239 rfl) rfl), (zt_in (zt_t3 0 rfl) rfl), (zt_in (zt_t3 1 rfl) rfl)⟩
theorem ms_L_96 : Cond.methodLink RL 96 yX10_learn ∈ zt_good ∧ Cond.instanceMethod yX10_learn ∈ zt_good ∧ Cond.selects yX10_learn.cls yX10_learn yX10_learn ∈ zt_good := ⟨(zt_in (zt_t4 68 rfl) rfl), (zt_in (zt_t4 69 rfl) rfl), (zt_in (zt_t4 70 rfl) rfl)⟩
theorem ms_L_97 : Cond.methodLink RL 97 yX9_forge ∈ zt_good ∧ Cond.instanceMethod yX9_forge ∈ zt_good ∧ Cond.selects yX9_forge.cls yX9_forge yX9_forge ∈ zt_good := ⟨(zt_in (zt_t3 19 rfl) rfl), (zt_in (zt_t3 20 rfl) rfl), (zt_in (zt_t3 21 rfl) rfl)⟩
theorem ms_L_100 : Cond.methodLink RL 100 yX10_forge ∈ zt_good ∧ Cond.instanceMethod yX10_forge ∈ zt_good ∧ Cond.selects yX10_forge.cls yX10_forge yX10_forge ∈ zt_good := ⟨(zt_in (zt_t4 72 rfl) rfl), (zt_in (zt_t4 73 rfl) rfl), (zt_in (zt_t4 74 rfl) rfl)⟩
theorem ms_L_101 : Cond.methodLink RL 101 yX9_seal ∈ zt_good ∧ Cond.instanceMethod yX9_seal ∈ zt_good ∧ Cond.selects yX9_seal.cls yX9_seal yX9_seal ∈ zt_good := ⟨(zt_in (zt_t3 27 rfl) rfl), (zt_in (zt_t3 28 rfl) rfl), (zt_in (zt_t3 29 rfl) rfl)⟩
theorem ms_L_104 : Cond.methodLink RL 104 yX10_seal ∈ zt_good ∧ Cond.instanceMethod yX10_seal ∈ zt_good ∧ Cond.selects yX10_seal.cls yX10_seal yX10_seal ∈ zt_good := ⟨(zt_in (zt_t4 81 rfl) rfl), (zt_in (zt_t4 82 rfl) rfl), (zt_in (zt_t4 83 rfl) rfl)⟩
theorem ms_L_105 : Cond.methodLink RL 105 yX9_look ∈ zt_good ∧ Cond.instanceMethod yX9_look ∈ zt_good ∧ Cond.selects yX9_look.cls yX9_look yX9_look ∈ zt_good := ⟨(zt_in (zt_t3 70 rfl) rfl), (zt_in (zt_t3 71 rfl) rfl), (zt_in (zt_t3 72 rfl) rfl)⟩
theorem ms_L_108 : Cond.methodLink RL 108 yX10_look ∈ zt_good ∧ Cond.instanceMethod yX10_look ∈ zt_good ∧ Cond.selects yX10_look.cls yX10_look yX10_look ∈ zt_good := ⟨(zt_in (zt_t4 85 rfl) rfl), (zt_in (zt_t4 86 rfl) rfl), (zt_in (zt_t4 87 rfl) rfl)⟩
theorem ms_X0_3 : Cond.methodLink RX0 3 objectInit ∈ zt_good ∧ Cond.instanceMethod objectInit ∈ zt_good ∧ Cond.code objectInit ⟨#[0xb1]⟩ 1 none ∈ zt_good := ⟨(zt_in (zt_t1 26 rfl) rfl), (zt_in (zt_t1 19 rfl) rfl), (zt_in (zt_t1 20 rfl) rfl)⟩
theorem ms_X0_23 : (RX0, 23, yX9_isPrincipal, "TicketRealm") ∈ zt_nest ∧ Cond.static yX9_isPrincipal ∈ zt_good := ⟨(by unfold zt_nest; simp [RX0, yX9_isPrincipal, RX9]), (zt_in (zt_t1 149 rfl) rfl)⟩
theorem ms_X0_27 : Cond.methodLink RX0 27 yX0_holds ∈ zt_good ∧ Cond.instanceMethod yX0_holds ∈ zt_good ∧ Cond.selects yX0_holds.cls yX0_holds yX0_holds ∈ zt_good := ⟨(zt_in (zt_t1 163 rfl) rfl), (zt_in (zt_t1 164 rfl) rfl), (zt_in (zt_t1 165 rfl) rfl)⟩
theorem ms_X1_3 : Cond.methodLink RX1 3 yX6_init ∈ zt_good ∧ Cond.instanceMethod yX6_init ∈ zt_good := ⟨(zt_in (zt_t2 57 rfl) rfl), (zt_in (zt_t1 236 rfl) rfl)⟩
theorem ms_X1_28 : Cond.methodLink RX1 28 yX3_sameAs ∈ zt_good ∧ Cond.instanceMethod yX3_sameAs ∈ zt_good ∧ Cond.selects yX3_sameAs.cls yX3_sameAs yX3_sameAs ∈ zt_good := ⟨(zt_in (zt_t2 215 rfl) rfl), (zt_in (zt_t2 216 rfl) rfl), (zt_in (zt_t2 217 rfl) rfl)⟩
theorem ms_X10_1 : Cond.methodLink RX10 1 objectInit ∈ zt_good ∧ Cond.instanceMethod objectInit ∈ zt_good ∧ Cond.code objectInit ⟨#[0xb1]⟩ 1 none ∈ zt_good := ⟨(zt_in (zt_t3 90 rfl) rfl), (zt_in (zt_t1 19 rfl) rfl), (zt_in (zt_t1 20 rfl) rfl)⟩
theorem ms_X10_87 : Cond.methodLink RX10 87 yX10_in ∈ zt_good ∧ Cond.static yX10_in ∈ zt_good := ⟨(zt_in (zt_t3 186 rfl) rfl), (zt_in (zt_t3 187 rfl) rfl)⟩
theorem ms_X10_141 : Cond.methodLink RX10 141 yX10_least ∈ zt_good ∧ Cond.static yX10_least ∈ zt_good := ⟨(zt_in (zt_t4 29 rfl) rfl), (zt_in (zt_t4 30 rfl) rfl)⟩
theorem ms_X10_94 : Cond.methodLink RX10 94 yX10_booked ∈ zt_good ∧ Cond.instanceMethod yX10_booked ∈ zt_good ∧ Cond.selects yX10_booked.cls yX10_booked yX10_booked ∈ zt_good := ⟨(zt_in (zt_t3 193 rfl) rfl), (zt_in (zt_t3 195 rfl) rfl), (zt_in (zt_t0 19 rfl) rfl)⟩
theorem ms_X10_98 : Cond.methodLink RX10 98 yX10_copyBook ∈ zt_good ∧ Cond.instanceMethod yX10_copyBook ∈ zt_good ∧ Cond.selects yX10_copyBook.cls yX10_copyBook yX10_copyBook ∈ zt_good := ⟨(zt_in (zt_t3 209 rfl) rfl), (zt_in (zt_t3 211 rfl) rfl), (zt_in (zt_t0 20 rfl) rfl)⟩
theorem ms_X10_105 : Cond.methodLink RX10 105 yX10_make ∈ zt_good ∧ Cond.instanceMethod yX10_make ∈ zt_good ∧ Cond.selects yX10_make.cls yX10_make yX10_make ∈ zt_good := ⟨(zt_in (zt_t3 237 rfl) rfl), (zt_in (zt_t3 239 rfl) rfl), (zt_in (zt_t0 24 rfl) rfl)⟩
theorem ms_X10_112 : Cond.methodLink RX10 112 yX10_user ∈ zt_good ∧ Cond.instanceMethod yX10_user ∈ zt_good ∧ Cond.selects yX10_user.cls yX10_user yX10_user ∈ zt_good := ⟨(zt_in (zt_t3 225 rfl) rfl), (zt_in (zt_t3 227 rfl) rfl), (zt_in (zt_t0 21 rfl) rfl)⟩
theorem ms_X10_115 : Cond.methodLink RX10 115 yX10_request ∈ zt_good ∧ Cond.instanceMethod yX10_request ∈ zt_good ∧ Cond.selects yX10_request.cls yX10_request yX10_request ∈ zt_good := ⟨(zt_in (zt_t3 229 rfl) rfl), (zt_in (zt_t3 231 rfl) rfl), (zt_in (zt_t0 22 rfl) rfl)⟩
theorem ms_X10_119 : Cond.methodLink RX10 119 yX10_makeProof ∈ zt_good ∧ Cond.instanceMethod yX10_makeProof ∈ zt_good ∧ Cond.selects yX10_makeProof.cls yX10_makeProof yX10_makeProof ∈ zt_good := ⟨(zt_in (zt_t3 233 rfl) rfl), (zt_in (zt_t3 235 rfl) rfl), (zt_in (zt_t0 23 rfl) rfl)⟩
theorem ms_X10_123 : Cond.methodLink RX10 123 yX10_makeClaim ∈ zt_good ∧ Cond.instanceMethod yX10_makeClaim ∈ zt_good ∧ Cond.selects yX10_makeClaim.cls yX10_makeClaim yX10_makeClaim ∈ zt_good := ⟨(zt_in (zt_t4 5 rfl) rfl), (zt_in (zt_t4 7 rfl) rfl), (zt_in (zt_t0 25 rfl) rfl)⟩
theorem ms_X10_126 : Cond.methodLink RX10 126 yX10_opens ∈ zt_good ∧ Cond.instanceMethod yX10_opens ∈ zt_good ∧ Cond.selects yX10_opens.cls yX10_opens yX10_opens ∈ zt_good := ⟨(zt_in (zt_t4 13 rfl) rfl), (zt_in (zt_t4 15 rfl) rfl), (zt_in (zt_t0 26 rfl) rfl)⟩
theorem ms_X10_129 : Cond.methodLink RX10 129 yX10_makeTicket ∈ zt_good ∧ Cond.instanceMethod yX10_makeTicket ∈ zt_good ∧ Cond.selects yX10_makeTicket.cls yX10_makeTicket yX10_makeTicket ∈ zt_good := ⟨(zt_in (zt_t4 36 rfl) rfl), (zt_in (zt_t4 38 rfl) rfl), (zt_in (zt_t0 29 rfl) rfl)⟩
theorem ms_X10_133 : Cond.methodLink RX10 133 yX10_makePart ∈ zt_good ∧ Cond.instanceMethod yX10_makePart ∈ zt_good ∧ Cond.selects yX10_makePart.cls yX10_makePart yX10_makePart ∈ zt_good := ⟨(zt_in (zt_t4 40 rfl) rfl), (zt_in (zt_t4 42 rfl) rfl), (zt_in (zt_t0 30 rfl) rfl)⟩
theorem ms_X10_137 : Cond.methodLink RX10 137 yX10_near ∈ zt_good ∧ Cond.instanceMethod yX10_near ∈ zt_good ∧ Cond.selects yX10_near.cls yX10_near yX10_near ∈ zt_good := ⟨(zt_in (zt_t4 25 rfl) rfl), (zt_in (zt_t4 27 rfl) rfl), (zt_in (zt_t0 27 rfl) rfl)⟩
theorem ms_X10_144 : Cond.methodLink RX10 144 yX10_bothSeals ∈ zt_good ∧ Cond.instanceMethod yX10_bothSeals ∈ zt_good ∧ Cond.selects yX10_bothSeals.cls yX10_bothSeals yX10_bothSeals ∈ zt_good := ⟨(zt_in (zt_t4 32 rfl) rfl), (zt_in (zt_t4 34 rfl) rfl), (zt_in (zt_t0 28 rfl) rfl)⟩
theorem ms_X10_150 : Cond.methodLink RX10 150 yX10_forgetOld ∈ zt_good ∧ Cond.instanceMethod yX10_forgetOld ∈ zt_good ∧ Cond.selects yX10_forgetOld.cls yX10_forgetOld yX10_forgetOld ∈ zt_good := ⟨(zt_in (zt_t4 52 rfl) rfl), (zt_in (zt_t4 54 rfl) rfl), (zt_in (zt_t0 31 rfl) rfl)⟩
theorem ms_X10_153 : Cond.methodLink RX10 153 yX10_same ∈ zt_good ∧ Cond.instanceMethod yX10_same ∈ zt_good ∧ Cond.selects yX10_same.cls yX10_same yX10_same ∈ zt_good := ⟨(zt_in (zt_t4 56 rfl) rfl), (zt_in (zt_t4 58 rfl) rfl), (zt_in (zt_t0 32 rfl) rfl)⟩
theorem ms_X10_159 : Cond.methodLink RX10 159 yX10_isStolen ∈ zt_good ∧ Cond.instanceMethod yX10_isStolen ∈ zt_good ∧ Cond.selects yX10_isStolen.cls yX10_isStolen yX10_isStolen ∈ zt_good := ⟨(zt_in (zt_t4 76 rfl) rfl), (zt_in (zt_t4 78 rfl) rfl), (zt_in (zt_t0 33 rfl) rfl)⟩
theorem ms_X2_3 : Cond.methodLink RX2 3 objectInit ∈ zt_good ∧ Cond.instanceMethod objectInit ∈ zt_good ∧ Cond.code objectInit ⟨#[0xb1]⟩ 1 none ∈ zt_good := ⟨(zt_in (zt_t1 50 rfl) rfl), (zt_in (zt_t1 19 rfl) rfl), (zt_in (zt_t1 20 rfl) rfl)⟩
theorem ms_X2_31 : Cond.methodLink RX2 31 yX1_sameAs ∈ zt_good ∧ Cond.instanceMethod yX1_sameAs ∈ zt_good ∧ Cond.selects yX1_sameAs.cls yX1_sameAs yX1_sameAs ∈ zt_good := ⟨(zt_in (zt_t2 211 rfl) rfl), (zt_in (zt_t2 212 rfl) rfl), (zt_in (zt_t2 213 rfl) rfl)⟩
theorem ms_X3_1 : Cond.methodLink RX3 1 objectInit ∈ zt_good ∧ Cond.instanceMethod objectInit ∈ zt_good ∧ Cond.code objectInit ⟨#[0xb1]⟩ 1 none ∈ zt_good := ⟨(zt_in (zt_t2 37 rfl) rfl), (zt_in (zt_t1 19 rfl) rfl), (zt_in (zt_t1 20 rfl) rfl)⟩
theorem ms_X4_3 : Cond.methodLink RX4 3 yX6_init ∈ zt_good ∧ Cond.instanceMethod yX6_init ∈ zt_good := ⟨(zt_in (zt_t2 169 rfl) rfl), (zt_in (zt_t1 236 rfl) rfl)⟩
theorem ms_X5_3 : Cond.methodLink RX5 3 yX6_init ∈ zt_good ∧ Cond.instanceMethod yX6_init ∈ zt_good := ⟨(zt_in (zt_t1 235 rfl) rfl), (zt_in (zt_t1 236 rfl) rfl)⟩
theorem ms_X6_3 : Cond.methodLink RX6 3 objectInit ∈ zt_good ∧ Cond.instanceMethod objectInit ∈ zt_good ∧ Cond.code objectInit ⟨#[0xb1]⟩ 1 none ∈ zt_good := ⟨(zt_in (zt_t1 238 rfl) rfl), (zt_in (zt_t1 19 rfl) rfl), (zt_in (zt_t1 20 rfl) rfl)⟩
theorem ms_X7_3 : Cond.methodLink RX7 3 yX6_init ∈ zt_good ∧ Cond.instanceMethod yX6_init ∈ zt_good := ⟨(zt_in (zt_t2 142 rfl) rfl), (zt_in (zt_t1 236 rfl) rfl)⟩
theorem ms_X8_3 : Cond.methodLink RX8 3 objectInit ∈ zt_good ∧ Cond.instanceMethod objectInit ∈ zt_good ∧ Cond.code objectInit ⟨#[0xb1]⟩ 1 none ∈ zt_good := ⟨(zt_in (zt_t1 81 rfl) rfl), (zt_in (zt_t1 19 rfl) rfl), (zt_in (zt_t1 20 rfl) rfl)⟩
theorem ms_X9_1 : Cond.methodLink RX9 1 objectInit ∈ zt_good ∧ Cond.instanceMethod objectInit ∈ zt_good ∧ Cond.code objectInit ⟨#[0xb1]⟩ 1 none ∈ zt_good := ⟨(zt_in (zt_t1 18 rfl) rfl), (zt_in (zt_t1 19 rfl) rfl), (zt_in (zt_t1 20 rfl) rfl)⟩
theorem ms_X9_18 : Cond.methodLink RX9 18 yX0_init ∈ zt_good ∧ Cond.instanceMethod yX0_init ∈ zt_good := ⟨(zt_in (zt_t1 23 rfl) rfl), (zt_in (zt_t1 24 rfl) rfl)⟩
theorem ms_X9_34 : (RX9, 34, yX2_init, "TicketRealm") ∈ zt_nest ∧ Cond.instanceMethod yX2_init ∈ zt_good := ⟨(by unfold zt_nest; simp [RX9, yX2_init, RX2]), (zt_in (zt_t1 48 rfl) rfl)⟩
theorem ms_X9_71 : Cond.methodLink RX9 71 yX8_init ∈ zt_good ∧ Cond.instanceMethod yX8_init ∈ zt_good := ⟨(zt_in (zt_t1 78 rfl) rfl), (zt_in (zt_t1 79 rfl) rfl)⟩
theorem ms_X9_128 : Cond.methodLink RX9 128 yX5_init ∈ zt_good ∧ Cond.instanceMethod yX5_init ∈ zt_good := ⟨(zt_in (zt_t1 232 rfl) rfl), (zt_in (zt_t1 233 rfl) rfl)⟩
theorem ms_X9_147 : Cond.methodLink RX9 147 yX3_init ∈ zt_good ∧ Cond.instanceMethod yX3_init ∈ zt_good := ⟨(zt_in (zt_t2 34 rfl) rfl), (zt_in (zt_t2 35 rfl) rfl)⟩
theorem ms_X9_148 : Cond.methodLink RX9 148 yX1_init ∈ zt_good ∧ Cond.instanceMethod yX1_init ∈ zt_good := ⟨(zt_in (zt_t2 54 rfl) rfl), (zt_in (zt_t2 55 rfl) rfl)⟩
theorem ms_X9_313 : Cond.methodLink RX9 313 yX7_init ∈ zt_good ∧ Cond.instanceMethod yX7_init ∈ zt_good := ⟨(zt_in (zt_t2 139 rfl) rfl), (zt_in (zt_t2 140 rfl) rfl)⟩
theorem ms_X9_316 : Cond.methodLink RX9 316 yX4_init ∈ zt_good ∧ Cond.instanceMethod yX4_init ∈ zt_good := ⟨(zt_in (zt_t2 166 rfl) rfl), (zt_in (zt_t2 167 rfl) rfl)⟩
theorem ms_X9_59 : Cond.methodLink RX9 59 yJ9_min_7cf53 ∈ zt_good ∧ Cond.static yJ9_min_7cf53 ∈ zt_good := ⟨(zt_in (zt_t1 71 rfl) rfl), (zt_in (zt_t1 72 rfl) rfl)⟩
theorem ms_X9_65 : Cond.methodLink RX9 65 yJ9_max_7cf53 ∈ zt_good ∧ Cond.static yJ9_max_7cf53 ∈ zt_good := ⟨(zt_in (zt_t1 74 rfl) rfl), (zt_in (zt_t1 75 rfl) rfl)⟩
theorem ms_X9_72 : Cond.methodLink RX9 72 yX9_isPrincipal ∈ zt_good ∧ Cond.static yX9_isPrincipal ∈ zt_good := ⟨(zt_in (zt_t1 148 rfl) rfl), (zt_in (zt_t1 149 rfl) rfl)⟩
theorem ms_X9_98 : Cond.methodLink RX9 98 yX9_isFile ∈ zt_good ∧ Cond.static yX9_isFile ∈ zt_good := ⟨(zt_in (zt_t1 185 rfl) rfl), (zt_in (zt_t1 186 rfl) rfl)⟩
theorem ms_X9_116 : Cond.methodLink RX9 116 yX9_isTarget ∈ zt_good ∧ Cond.static yX9_isTarget ∈ zt_good := ⟨(zt_in (zt_t1 219 rfl) rfl), (zt_in (zt_t1 220 rfl) rfl)⟩
theorem ms_X9_276 : Cond.methodLink RX9 276 yX9_forgedSeal ∈ zt_good ∧ Cond.static yX9_forgedSeal ∈ zt_good := ⟨(zt_in (zt_t3 23 rfl) rfl), (zt_in (zt_t3 24 rfl) rfl)⟩
theorem ms_X9_302 : Cond.methodLink RX9 302 yX9_isUser ∈ zt_good ∧ Cond.static yX9_isUser ∈ zt_good := ⟨(zt_in (zt_t1 216 rfl) rfl), (zt_in (zt_t1 217 rfl) rfl)⟩
theorem ms_X9_305 : Cond.methodLink RX9 305 yJ9_abs_067f4 ∈ zt_good ∧ Cond.static yJ9_abs_067f4 ∈ zt_good := ⟨(zt_in (zt_t2 126 rfl) rfl), (zt_in (zt_t2 127 rfl) rfl)⟩
theorem ms_X9_76 : Cond.methodLink RX9 76 yX9_hasRoom ∈ zt_good ∧ Cond.instanceMethod yX9_hasRoom ∈ zt_good ∧ Cond.selects yX9_hasRoom.cls yX9_hasRoom yX9_hasRoom ∈ zt_good := ⟨(zt_in (zt_t1 151 rfl) rfl), (zt_in (zt_t1 153 rfl) rfl), (zt_in (zt_t0 0 rfl) rfl)⟩
theorem ms_X9_80 : Cond.methodLink RX9 80 yX9_makeKey ∈ zt_good ∧ Cond.instanceMethod yX9_makeKey ∈ zt_good ∧ Cond.selects yX9_makeKey.cls yX9_makeKey yX9_makeKey ∈ zt_good := ⟨(zt_in (zt_t1 155 rfl) rfl), (zt_in (zt_t1 157 rfl) rfl), (zt_in (zt_t0 1 rfl) rfl)⟩
theorem ms_X9_84 : Cond.methodLink RX9 84 yX0_enter ∈ zt_good ∧ Cond.instanceMethod yX0_enter ∈ zt_good ∧ Cond.selects yX0_enter.cls yX0_enter yX0_enter ∈ zt_good := ⟨(zt_in (zt_t1 159 rfl) rfl), (zt_in (zt_t1 160 rfl) rfl), (zt_in (zt_t1 161 rfl) rfl)⟩
theorem ms_X9_88 : Cond.methodLink RX9 88 yX0_holds ∈ zt_good ∧ Cond.instanceMethod yX0_holds ∈ zt_good ∧ Cond.selects yX0_holds.cls yX0_holds yX0_holds ∈ zt_good := ⟨(zt_in (zt_t1 172 rfl) rfl), (zt_in (zt_t1 164 rfl) rfl), (zt_in (zt_t1 165 rfl) rfl)⟩
theorem ms_X9_91 : Cond.methodLink RX9 91 yX0_strike ∈ zt_good ∧ Cond.instanceMethod yX0_strike ∈ zt_good ∧ Cond.selects yX0_strike.cls yX0_strike yX0_strike ∈ zt_good := ⟨(zt_in (zt_t1 173 rfl) rfl), (zt_in (zt_t1 174 rfl) rfl), (zt_in (zt_t1 175 rfl) rfl)⟩
theorem ms_X9_105 : Cond.methodLink RX9 105 yX0_copyFrom ∈ zt_good ∧ Cond.instanceMethod yX0_copyFrom ∈ zt_good ∧ Cond.selects yX0_copyFrom.cls yX0_copyFrom yX0_copyFrom ∈ zt_good := ⟨(zt_in (zt_t1 192 rfl) rfl), (zt_in (zt_t1 193 rfl) rfl), (zt_in (zt_t1 194 rfl) rfl)⟩
theorem ms_X9_109 : Cond.methodLink RX9 109 yX0_size ∈ zt_good ∧ Cond.instanceMethod yX0_size ∈ zt_good ∧ Cond.selects yX0_size.cls yX0_size yX0_size ∈ zt_good := ⟨(zt_in (zt_t1 196 rfl) rfl), (zt_in (zt_t1 197 rfl) rfl), (zt_in (zt_t1 198 rfl) rfl)⟩
theorem ms_X9_112 : Cond.methodLink RX9 112 yX9_userAt ∈ zt_good ∧ Cond.instanceMethod yX9_userAt ∈ zt_good ∧ Cond.selects yX9_userAt.cls yX9_userAt yX9_userAt ∈ zt_good := ⟨(zt_in (zt_t1 212 rfl) rfl), (zt_in (zt_t1 214 rfl) rfl), (zt_in (zt_t0 2 rfl) rfl)⟩
theorem ms_X9_119 : Cond.methodLink RX9 119 yX9_makeNonce ∈ zt_good ∧ Cond.instanceMethod yX9_makeNonce ∈ zt_good ∧ Cond.selects yX9_makeNonce.cls yX9_makeNonce yX9_makeNonce ∈ zt_good := ⟨(zt_in (zt_t1 222 rfl) rfl), (zt_in (zt_t1 224 rfl) rfl), (zt_in (zt_t0 3 rfl) rfl)⟩
theorem ms_X9_122 : Cond.methodLink RX9 122 yX8_openRequest ∈ zt_good ∧ Cond.instanceMethod yX8_openRequest ∈ zt_good ∧ Cond.selects yX8_openRequest.cls yX8_openRequest yX8_openRequest ∈ zt_good := ⟨(zt_in (zt_t1 226 rfl) rfl), (zt_in (zt_t1 227 rfl) rfl), (zt_in (zt_t1 228 rfl) rfl)⟩
theorem ms_X9_130 : Cond.methodLink RX9 130 yX9_keep ∈ zt_good ∧ Cond.instanceMethod yX9_keep ∈ zt_good ∧ Cond.selects yX9_keep.cls yX9_keep yX9_keep ∈ zt_good := ⟨(zt_in (zt_t2 14 rfl) rfl), (zt_in (zt_t2 16 rfl) rfl), (zt_in (zt_t0 4 rfl) rfl)⟩
theorem ms_X9_134 : Cond.methodLink RX9 134 yX8_hasCredential ∈ zt_good ∧ Cond.instanceMethod yX8_hasCredential ∈ zt_good ∧ Cond.selects yX8_hasCredential.cls yX8_hasCredential yX8_hasCredential ∈ zt_good := ⟨(zt_in (zt_t2 22 rfl) rfl), (zt_in (zt_t2 23 rfl) rfl), (zt_in (zt_t2 24 rfl) rfl)⟩
theorem ms_X9_142 : Cond.methodLink RX9 142 yX8_makeSerial ∈ zt_good ∧ Cond.instanceMethod yX8_makeSerial ∈ zt_good ∧ Cond.selects yX8_makeSerial.cls yX8_makeSerial yX8_makeSerial ∈ zt_good := ⟨(zt_in (zt_t2 28 rfl) rfl), (zt_in (zt_t2 29 rfl) rfl), (zt_in (zt_t2 30 rfl) rfl)⟩
theorem ms_X9_151 : Cond.methodLink RX9 151 yX8_hasRequest ∈ zt_good ∧ Cond.instanceMethod yX8_hasRequest ∈ zt_good ∧ Cond.selects yX8_hasRequest.cls yX8_hasRequest yX8_hasRequest ∈ zt_good := ⟨(zt_in (zt_t2 81 rfl) rfl), (zt_in (zt_t2 82 rfl) rfl), (zt_in (zt_t2 83 rfl) rfl)⟩
theorem ms_X9_155 : Cond.methodLink RX9 155 yX9_sealAt ∈ zt_good ∧ Cond.instanceMethod yX9_sealAt ∈ zt_good ∧ Cond.selects yX9_sealAt.cls yX9_sealAt yX9_sealAt ∈ zt_good := ⟨(zt_in (zt_t2 85 rfl) rfl), (zt_in (zt_t2 87 rfl) rfl), (zt_in (zt_t0 5 rfl) rfl)⟩
theorem ms_X9_162 : Cond.methodLink RX9 162 yX9_openPart ∈ zt_good ∧ Cond.instanceMethod yX9_openPart ∈ zt_good ∧ Cond.selects yX9_openPart.cls yX9_openPart yX9_openPart ∈ zt_good := ⟨(zt_in (zt_t2 89 rfl) rfl), (zt_in (zt_t2 91 rfl) rfl), (zt_in (zt_t0 6 rfl) rfl)⟩
theorem ms_X9_183 : Cond.methodLink RX9 183 yX8_closeRequest ∈ zt_good ∧ Cond.instanceMethod yX8_closeRequest ∈ zt_good ∧ Cond.selects yX8_closeRequest.cls yX8_closeRequest yX8_closeRequest ∈ zt_good := ⟨(zt_in (zt_t2 98 rfl) rfl), (zt_in (zt_t2 99 rfl) rfl), (zt_in (zt_t2 100 rfl) rfl)⟩
theorem ms_X9_186 : Cond.methodLink RX9 186 yX9_isUserInBook ∈ zt_good ∧ Cond.instanceMethod yX9_isUserInBook ∈ zt_good ∧ Cond.selects yX9_isUserInBook.cls yX9_isUserInBook yX9_isUserInBook ∈ zt_good := ⟨(zt_in (zt_t2 110 rfl) rfl), (zt_in (zt_t2 112 rfl) rfl), (zt_in (zt_t0 8 rfl) rfl)⟩
theorem ms_X9_189 : Cond.methodLink RX9 189 yX9_isTargetInBook ∈ zt_good ∧ Cond.instanceMethod yX9_isTargetInBook ∈ zt_good ∧ Cond.selects yX9_isTargetInBook.cls yX9_isTargetInBook yX9_isTargetInBook ∈ zt_good := ⟨(zt_in (zt_t2 114 rfl) rfl), (zt_in (zt_t2 116 rfl) rfl), (zt_in (zt_t0 9 rfl) rfl)⟩
theorem ms_X9_195 : Cond.methodLink RX9 195 yX9_openProof ∈ zt_good ∧ Cond.instanceMethod yX9_openProof ∈ zt_good ∧ Cond.selects yX9_openProof.cls yX9_openProof yX9_openProof ∈ zt_good := ⟨(zt_in (zt_t2 118 rfl) rfl), (zt_in (zt_t2 120 rfl) rfl), (zt_in (zt_t0 10 rfl) rfl)⟩
theorem ms_X9_205 : Cond.methodLink RX9 205 yX9_near ∈ zt_good ∧ Cond.instanceMethod yX9_near ∈ zt_good ∧ Cond.selects yX9_near.cls yX9_near yX9_near ∈ zt_good := ⟨(zt_in (zt_t2 122 rfl) rfl), (zt_in (zt_t2 124 rfl) rfl), (zt_in (zt_t0 11 rfl) rfl)⟩
theorem ms_X9_208 : Cond.methodLink RX9 208 yX9_firstEnd ∈ zt_good ∧ Cond.instanceMethod yX9_firstEnd ∈ zt_good ∧ Cond.selects yX9_firstEnd.cls yX9_firstEnd yX9_firstEnd ∈ zt_good := ⟨(zt_in (zt_t2 129 rfl) rfl), (zt_in (zt_t2 131 rfl) rfl), (zt_in (zt_t0 12 rfl) rfl)⟩
theorem ms_X9_212 : Cond.methodLink RX9 212 yX9_makeTicketAndPart ∈ zt_good ∧ Cond.instanceMethod yX9_makeTicketAndPart ∈ zt_good ∧ Cond.selects yX9_makeTicketAndPart.cls yX9_makeTicketAndPart yX9_makeTicketAndPart ∈ zt_good := ⟨(zt_in (zt_t2 133 rfl) rfl), (zt_in (zt_t2 135 rfl) rfl), (zt_in (zt_t0 13 rfl) rfl)⟩
theorem ms_X9_216 : Cond.methodLink RX9 216 yX9_openTicket ∈ zt_good ∧ Cond.instanceMethod yX9_openTicket ∈ zt_good ∧ Cond.selects yX9_openTicket.cls yX9_openTicket yX9_openTicket ∈ zt_good := ⟨(zt_in (zt_t2 191 rfl) rfl), (zt_in (zt_t2 193 rfl) rfl), (zt_in (zt_t0 14 rfl) rfl)⟩
theorem ms_X9_223 : Cond.methodLink RX9 223 yX9_openClaim ∈ zt_good ∧ Cond.instanceMethod yX9_openClaim ∈ zt_good ∧ Cond.selects yX9_openClaim.cls yX9_openClaim yX9_openClaim ∈ zt_good := ⟨(zt_in (zt_t2 195 rfl) rfl), (zt_in (zt_t2 197 rfl) rfl), (zt_in (zt_t0 15 rfl) rfl)⟩
theorem ms_X9_243 : Cond.methodLink RX9 243 yX2_dropClaimsBefore ∈ zt_good ∧ Cond.instanceMethod yX2_dropClaimsBefore ∈ zt_good ∧ Cond.selects yX2_dropClaimsBefore.cls yX2_dropClaimsBefore yX2_dropClaimsBefore ∈ zt_good := ⟨(zt_in (zt_t2 203 rfl) rfl), (zt_in (zt_t2 204 rfl) rfl), (zt_in (zt_t2 205 rfl) rfl)⟩
theorem ms_X9_249 : Cond.methodLink RX9 249 yX2_hasServed ∈ zt_good ∧ Cond.instanceMethod yX2_hasServed ∈ zt_good ∧ Cond.selects yX2_hasServed.cls yX2_hasServed yX2_hasServed ∈ zt_good := ⟨(zt_in (zt_t2 207 rfl) rfl), (zt_in (zt_t2 208 rfl) rfl), (zt_in (zt_t2 209 rfl) rfl)⟩
theorem ms_X9_253 : Cond.methodLink RX9 253 yX0_permits ∈ zt_good ∧ Cond.instanceMethod yX0_permits ∈ zt_good ∧ Cond.selects yX0_permits.cls yX0_permits yX0_permits ∈ zt_good := ⟨(zt_in (zt_t2 219 rfl) rfl), (zt_in (zt_t2 220 rfl) rfl), (zt_in (zt_t2 221 rfl) rfl)⟩
theorem ms_X9_257 : Cond.methodLink RX9 257 yX2_cacheIsFull ∈ zt_good ∧ Cond.instanceMethod yX2_cacheIsFull ∈ zt_good ∧ Cond.selects yX2_cacheIsFull.cls yX2_cacheIsFull yX2_cacheIsFull ∈ zt_good := ⟨(zt_in (zt_t2 223 rfl) rfl), (zt_in (zt_t2 224 rfl) rfl), (zt_in (zt_t2 225 rfl) rfl)⟩
theorem ms_X9_260 : Cond.methodLink RX9 260 yX2_carryOut ∈ zt_good ∧ Cond.instanceMethod yX2_carryOut ∈ zt_good ∧ Cond.selects yX2_carryOut.cls yX2_carryOut yX2_carryOut ∈ zt_good := ⟨(zt_in (zt_t2 227 rfl) rfl), (zt_in (zt_t2 228 rfl) rfl), (zt_in (zt_t2 229 rfl) rfl)⟩
theorem ms_X9_270 : Cond.methodLink RX9 270 yX9_isStolen ∈ zt_good ∧ Cond.instanceMethod yX9_isStolen ∈ zt_good ∧ Cond.selects yX9_isStolen.cls yX9_isStolen yX9_isStolen ∈ zt_good := ⟨(zt_in (zt_t3 3 rfl) rfl), (zt_in (zt_t3 5 rfl) rfl), (zt_in (zt_t0 16 rfl) rfl)⟩
theorem ms_X9_295 : Cond.methodLink RX9 295 yX9_openNonce ∈ zt_good ∧ Cond.instanceMethod yX9_openNonce ∈ zt_good ∧ Cond.selects yX9_openNonce.cls yX9_openNonce yX9_openNonce ∈ zt_good := ⟨(zt_in (zt_t3 74 rfl) rfl), (zt_in (zt_t3 76 rfl) rfl), (zt_in (zt_t0 17 rfl) rfl)⟩
theorem ms_X9_299 : Cond.methodLink RX9 299 yX9_heldTicket ∈ zt_good ∧ Cond.instanceMethod yX9_heldTicket ∈ zt_good ∧ Cond.selects yX9_heldTicket.cls yX9_heldTicket yX9_heldTicket ∈ zt_good := ⟨(zt_in (zt_t3 78 rfl) rfl), (zt_in (zt_t3 80 rfl) rfl), (zt_in (zt_t0 18 rfl) rfl)⟩
theorem ms_X9_309 : Cond.methodLink RX9 309 yX9_open ∈ zt_good ∧ Cond.instanceMethod yX9_open ∈ zt_good ∧ Cond.selects yX9_open.cls yX9_open yX9_open ∈ zt_good := ⟨(zt_in (zt_t2 93 rfl) rfl), (zt_in (zt_t2 95 rfl) rfl), (zt_in (zt_t0 7 rfl) rfl)⟩
theorem ns_L_7 : Cond.classLink RL 7 RX9 ∈ zt_good ∧ Cond.instantiable RX9 12 ∈ zt_good ∧ Cond.initialized RX9 ∈ zt_good := ⟨(zt_in (zt_t1 13 rfl) rfl), (zt_in (zt_t1 14 rfl) rfl), (zt_in (zt_t1 1 rfl) rfl)⟩
theorem ns_L_18 : Cond.classLink RL 18 RX10 ∈ zt_good ∧ Cond.instantiable RX10 30 ∈ zt_good ∧ Cond.initialized RX10 ∈ zt_good := ⟨(zt_in (zt_t3 85 rfl) rfl), (zt_in (zt_t3 86 rfl) rfl), (zt_in (zt_t1 6 rfl) rfl)⟩
theorem kl_X2_15 : Cond.classLink RX2 15 "TicketRealm$Claim" ∈ zt_good := (zt_in (zt_t1 51 rfl) rfl)
theorem kl_X9_26 : Cond.classLink RX9 26 "TicketRealm$User" ∈ zt_good := (zt_in (zt_t1 43 rfl) rfl)
theorem kl_X9_39 : Cond.classLink RX9 39 "TicketRealm$Seal" ∈ zt_good := (zt_in (zt_t1 69 rfl) rfl)
theorem kl_X9_126 : Cond.classLink RX9 126 "TicketRealm$Proof" ∈ zt_good := (zt_in (zt_t1 230 rfl) rfl)
theorem kl_X9_140 : Cond.classLink RX9 140 "TicketRealm$Claim" ∈ zt_good := (zt_in (zt_t2 26 rfl) rfl)
theorem kl_X9_167 : Cond.classLink RX9 167 "TicketRealm$Part" ∈ zt_good := (zt_in (zt_t2 97 rfl) rfl)
theorem kl_X9_221 : Cond.classLink RX9 221 "TicketRealm$Ticket" ∈ zt_good := (zt_in (zt_t2 137 rfl) rfl)
theorem ns_X9_16 : Cond.classLink RX9 16 RX0 ∈ zt_good ∧ Cond.instantiable RX0 3 ∈ zt_good ∧ Cond.initialized RX0 ∈ zt_good := ⟨(zt_in (zt_t1 21 rfl) rfl), (zt_in (zt_t1 22 rfl) rfl), (zt_in (zt_t1 2 rfl) rfl)⟩
theorem ns_X9_26 : Cond.classLink RX9 26 RX8 ∈ zt_good ∧ Cond.instantiable RX8 6 ∈ zt_good ∧ Cond.initialized RX8 ∈ zt_good := ⟨(zt_in (zt_t1 43 rfl) rfl), (zt_in (zt_t1 77 rfl) rfl), (zt_in (zt_t1 5 rfl) rfl)⟩
theorem ns_X9_32 : Cond.classLink RX9 32 RX2 ∈ zt_good ∧ Cond.instantiable RX2 4 ∈ zt_good ∧ Cond.initialized RX2 ∈ zt_good := ⟨(zt_in (zt_t1 45 rfl) rfl), (zt_in (zt_t1 46 rfl) rfl), (zt_in (zt_t1 3 rfl) rfl)⟩
theorem ns_X9_126 : Cond.classLink RX9 126 RX5 ∈ zt_good ∧ Cond.instantiable RX5 3 ∈ zt_good ∧ Cond.initialized RX5 ∈ zt_good := ⟨(zt_in (zt_t1 230 rfl) rfl), (zt_in (zt_t1 231 rfl) rfl), (zt_in (zt_t1 8 rfl) rfl)⟩
theorem ns_X9_140 : Cond.classLink RX9 140 RX1 ∈ zt_good ∧ Cond.instantiable RX1 5 ∈ zt_good ∧ Cond.initialized RX1 ∈ zt_good := ⟨(zt_in (zt_t2 26 rfl) rfl), (zt_in (zt_t2 27 rfl) rfl), (zt_in (zt_t1 9 rfl) rfl)⟩
theorem ns_X9_145 : Cond.classLink RX9 145 RX3 ∈ zt_good ∧ Cond.instantiable RX3 3 ∈ zt_good ∧ Cond.initialized RX3 ∈ zt_good := ⟨(zt_in (zt_t2 32 rfl) rfl), (zt_in (zt_t2 33 rfl) rfl), (zt_in (zt_t1 10 rfl) rfl)⟩
theorem ns_X9_167 : Cond.classLink RX9 167 RX4 ∈ zt_good ∧ Cond.instantiable RX4 5 ∈ zt_good ∧ Cond.initialized RX4 ∈ zt_good := ⟨(zt_in (zt_t2 97 rfl) rfl), (zt_in (zt_t2 165 rfl) rfl), (zt_in (zt_t1 12 rfl) rfl)⟩
theorem ns_X9_221 : Cond.classLink RX9 221 RX7 ∈ zt_good ∧ Cond.instantiable RX7 6 ∈ zt_good ∧ Cond.initialized RX7 ∈ zt_good := ⟨(zt_in (zt_t2 137 rfl) rfl), (zt_in (zt_t2 138 rfl) rfl), (zt_in (zt_t1 11 rfl) rfl)⟩
