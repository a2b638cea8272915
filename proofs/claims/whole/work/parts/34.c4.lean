set_option maxHeartbeats 4000000 in
set_option maxRecDepth 100000 in
theorem c_X8_hasRequest_0 (l : Launch) (Y : zw_Y) (N0 : Nat) (ad : Nat → Nat) (sh : Nat → Option zw_Sh) (g u : zm_T) (hS : zc_S sh) (hN : zc_N g u) : zw_Met l Y N0 yX8_hasRequest cX8_hasRequest 1 (some .boolean) 0 0 0 0 ad sh g [.ref (ad 115)] (zp_B ad sh g (¬ (u 20 2).toInt = 0)) := by
  refine zw_meth (by decide) (Nat.le_of_ble_eq_true rfl) ?_
  intro p e s m below meth c ls X hnm hl hW
  have hl : lv_has ls 1 [(0, .ref (ad 115))] := hl
  have hN0 := hN
  refine lv_aload_n X.1 X.2.1 dX8_hasRequest_0 rfl (lv_at hl 0 rfl) ?_
  refine zr_get (r := 115) (v := .int (u 20 2)) X hW fs_X8_9_7 dX8_hasRequest_1 (zc_s115 hS) rfl rfl (congrArg Value.int (hN0 _ _ _ _ rfl)) ?_
  refine zr_if_eq (a := (u 20 2).toInt) (tgt := 11) X dX8_hasRequest_4 (by decide) rfl (fun c_1 => ?_) (fun c_1 => ?_)
  · refine lv_iconst (v := 0) X.1 X.2.1 dX8_hasRequest_11 (by decide) ?_
    exact zr_zret X hW dX8_hasRequest_12 (Nat.le_refl _) (Nat.le_refl _) rfl ⟨rfl, rfl, rfl, Or.inr ⟨by omega, rfl⟩⟩
  · refine lv_iconst (v := 1) X.1 X.2.1 dX8_hasRequest_7 (by decide) ?_
    refine lv_goto (tgt := 12) X.1 X.2.1 dX8_hasRequest_8 (by decide) ?_
    exact zr_zret X hW dX8_hasRequest_12 (Nat.le_refl _) (Nat.le_refl _) rfl ⟨rfl, rfl, rfl, Or.inl ⟨by omega, rfl⟩⟩

set_option maxHeartbeats 4000000 in
set_option maxRecDepth 100000 in
theorem c_X8_hasCredential_0_0 (l : Launch) (Y : zw_Y) (N0 : Nat) (ad : Nat → Nat) (sh : Nat → Option zw_Sh) (g u : zm_T) (hS : zc_S sh) (hN : zc_N g u) (hT : ∀ i : Nat, i < 12 → -1 ≤ (u 23 i).toInt) : zw_Met l Y N0 yX8_hasCredential cX8_hasCredential 2 (some .boolean) 0 0 0 0 ad sh g [.ref (ad 115), .int 0] (zp_B ad sh g (0 ≤ (u 23 4).toInt)) := by
  refine zw_meth (by decide) (Nat.le_of_ble_eq_true rfl) ?_
  intro p e s m below meth c ls X hnm hl hW
  have hl : lv_has ls 2 [(0, .ref (ad 115)), (1, .int 0)] := hl
  have hN0 := hN
  refine lv_aload_n X.1 X.2.1 dX8_hasCredential_0 rfl (lv_at hl 0 rfl) ?_
  refine zr_get (r := 115) (v := .ref (ad 133)) X hW fs_X8_24_7 dX8_hasCredential_1 (zc_s115 hS) rfl rfl rfl ?_
  refine lv_iload_n X.1 X.2.1 dX8_hasCredential_4 rfl (lv_at hl 1 rfl) ?_
  refine zr_iald (r := 133) (v := u 23 4) X hW dX8_hasCredential_5 (zc_s133 hS) rfl rfl (zi_vp (by decide)) ((show g 133 (0 : Int32).toNatClampNeg = g 133 0 from rfl).trans (hN0 _ _ _ _ rfl)) ?_
  refine lv_iconst (v := (-1)) X.1 X.2.1 dX8_hasCredential_6 (by decide) ?_
  refine zr_icmp_eq (a := (u 23 4).toInt) (b := (-1)) (tgt := 14) X dX8_hasCredential_7 (by decide) rfl (by decide) (fun c_1 => ?_) (fun c_1 => ?_)
  · refine lv_iconst (v := 0) X.1 X.2.1 dX8_hasCredential_14 (by decide) ?_
    exact zr_zret X hW dX8_hasCredential_15 (Nat.le_refl _) (Nat.le_refl _) rfl ⟨rfl, rfl, rfl, Or.inr ⟨by have h8 := hT 4 (by omega); omega, rfl⟩⟩
  · refine lv_iconst (v := 1) X.1 X.2.1 dX8_hasCredential_10 (by decide) ?_
    refine lv_goto (tgt := 15) X.1 X.2.1 dX8_hasCredential_11 (by decide) ?_
    exact zr_zret X hW dX8_hasCredential_15 (Nat.le_refl _) (Nat.le_refl _) rfl ⟨rfl, rfl, rfl, Or.inl ⟨by have h8 := hT 4 (by omega); omega, rfl⟩⟩

set_option maxHeartbeats 4000000 in
set_option maxRecDepth 100000 in
theorem c_X8_hasCredential_0_1 (l : Launch) (Y : zw_Y) (N0 : Nat) (ad : Nat → Nat) (sh : Nat → Option zw_Sh) (g u : zm_T) (hS : zc_S sh) (hN : zc_N g u) (hT : ∀ i : Nat, i < 12 → -1 ≤ (u 23 i).toInt) : zw_Met l Y N0 yX8_hasCredential cX8_hasCredential 2 (some .boolean) 0 0 0 0 ad sh g [.ref (ad 115), .int 1] (zp_B ad sh g (0 ≤ (u 23 5).toInt)) := by
  refine zw_meth (by decide) (Nat.le_of_ble_eq_true rfl) ?_
  intro p e s m below meth c ls X hnm hl hW
  have hl : lv_has ls 2 [(0, .ref (ad 115)), (1, .int 1)] := hl
  have hN0 := hN
  refine lv_aload_n X.1 X.2.1 dX8_hasCredential_0 rfl (lv_at hl 0 rfl) ?_
  refine zr_get (r := 115) (v := .ref (ad 133)) X hW fs_X8_24_7 dX8_hasCredential_1 (zc_s115 hS) rfl rfl rfl ?_
  refine lv_iload_n X.1 X.2.1 dX8_hasCredential_4 rfl (lv_at hl 1 rfl) ?_
  refine zr_iald (r := 133) (v := u 23 5) X hW dX8_hasCredential_5 (zc_s133 hS) rfl rfl (zi_vp (by decide)) ((show g 133 (1 : Int32).toNatClampNeg = g 133 1 from rfl).trans (hN0 _ _ _ _ rfl)) ?_
  refine lv_iconst (v := (-1)) X.1 X.2.1 dX8_hasCredential_6 (by decide) ?_
  refine zr_icmp_eq (a := (u 23 5).toInt) (b := (-1)) (tgt := 14) X dX8_hasCredential_7 (by decide) rfl (by decide) (fun c_1 => ?_) (fun c_1 => ?_)
  · refine lv_iconst (v := 0) X.1 X.2.1 dX8_hasCredential_14 (by decide) ?_
    exact zr_zret X hW dX8_hasCredential_15 (Nat.le_refl _) (Nat.le_refl _) rfl ⟨rfl, rfl, rfl, Or.inr ⟨by have h8 := hT 5 (by omega); omega, rfl⟩⟩
  · refine lv_iconst (v := 1) X.1 X.2.1 dX8_hasCredential_10 (by decide) ?_
    refine lv_goto (tgt := 15) X.1 X.2.1 dX8_hasCredential_11 (by decide) ?_
    exact zr_zret X hW dX8_hasCredential_15 (Nat.le_refl _) (Nat.le_refl _) rfl ⟨rfl, rfl, rfl, Or.inl ⟨by have h8 := hT 5 (by omega); omega, rfl⟩⟩

set_option maxHeartbeats 4000000 in
set_option maxRecDepth 100000 in
theorem c_X8_openRequest_0 (l : Launch) (Y : zw_Y) (N0 : Nat) (ad : Nat → Nat) (sh : Nat → Option zw_Sh) (g : zm_T) (hS : zc_S sh) (nc t key : Int32) : zw_Met l Y N0 yX8_openRequest cX8_openRequest 4 none 0 0 0 0 ad sh g [.ref (ad 115), .int nc, .int t, .int key] (zp_G ad sh (fun v g' => v = none ∧ g' = zm_w (zm_w (zm_w g 115 0 nc) 115 1 t) 115 2 key)) := by
  refine zw_meth (by decide) (Nat.le_of_ble_eq_true rfl) ?_
  intro p e s m below meth c ls X hnm hl hW
  have hl : lv_has ls 4 [(0, .ref (ad 115)), (1, .int nc), (2, .int t), (3, .int key)] := hl
  refine lv_aload_n X.1 X.2.1 dX8_openRequest_0 rfl (lv_at hl 0 rfl) ?_
  refine lv_iload_n X.1 X.2.1 dX8_openRequest_1 rfl (lv_at hl 1 rfl) ?_
  refine zr_puti (r := 115) X hW fs_X8_9_7 dX8_openRequest_2 (zc_s115 hS) rfl rfl rfl rfl (fun H locs hW => ?_)
  obtain ⟨g_1, hg_1⟩ : ∃ z : zm_T, z = zm_w g 115 0 nc := ⟨_, rfl⟩
  have hW : zw_St Y N0 ad sh g_1 s H locs := by rw [hg_1]; exact hW
  refine lv_aload_n X.1 X.2.1 dX8_openRequest_5 rfl (lv_at hl 0 rfl) ?_
  refine lv_iload_n X.1 X.2.1 dX8_openRequest_6 rfl (lv_at hl 2 rfl) ?_
  refine zr_puti (r := 115) X hW fs_X8_15_7 dX8_openRequest_7 (zc_s115 hS) rfl rfl rfl rfl (fun H locs hW => ?_)
  obtain ⟨g_2, hg_2⟩ : ∃ z : zm_T, z = zm_w g_1 115 1 t := ⟨_, rfl⟩
  have hW : zw_St Y N0 ad sh g_2 s H locs := by rw [hg_2]; exact hW
  refine lv_aload_n X.1 X.2.1 dX8_openRequest_10 rfl (lv_at hl 0 rfl) ?_
  refine lv_iload_n X.1 X.2.1 dX8_openRequest_11 rfl (lv_at hl 3 rfl) ?_
  refine zr_puti (r := 115) X hW fs_X8_18_7 dX8_openRequest_12 (zc_s115 hS) rfl rfl rfl rfl (fun H locs hW => ?_)
  obtain ⟨g_3, hg_3⟩ : ∃ z : zm_T, z = zm_w g_2 115 2 key := ⟨_, rfl⟩
  have hW : zw_St Y N0 ad sh g_3 s H locs := by rw [hg_3]; exact hW
  exact zr_vret X hW dX8_openRequest_15 (Nat.le_refl _) (Nat.le_refl _) ⟨rfl, rfl, rfl, by rw [hg_3, hg_2, hg_1]⟩

set_option maxHeartbeats 4000000 in
set_option maxRecDepth 100000 in
theorem c_X8_closeRequest_0 (l : Launch) (Y : zw_Y) (N0 : Nat) (ad : Nat → Nat) (sh : Nat → Option zw_Sh) (g u : zm_T) (hS : zc_S sh) (hN : zc_N g u) (tk sk : Int32) (ht : 0 ≤ (u 21 2).toInt ∧ (u 21 2).toInt ≤ 1) : zw_Met l Y N0 yX8_closeRequest cX8_closeRequest 3 none 0 0 0 0 ad sh g [.ref (ad 115), .int tk, .int sk] (zp_G ad sh (fun v g' => v = none ∧ g' = zm_w (zm_w (zm_w g 133 (zn (u 21 2)) tk) 134 (zn (u 21 2)) sk) 115 0 0)) := by
  refine zw_meth (by decide) (Nat.le_of_ble_eq_true rfl) ?_
  intro p e s m below meth c ls X hnm hl hW
  have hl : lv_has ls 3 [(0, .ref (ad 115)), (1, .int tk), (2, .int sk)] := hl
  have hN0 := hN
  refine lv_aload_n X.1 X.2.1 dX8_closeRequest_0 rfl (lv_at hl 0 rfl) ?_
  refine zr_get (r := 115) (v := .ref (ad 133)) X hW fs_X8_24_7 dX8_closeRequest_1 (zc_s115 hS) rfl rfl rfl ?_
  refine lv_aload_n X.1 X.2.1 dX8_closeRequest_4 rfl (lv_at hl 0 rfl) ?_
  refine zr_get (r := 115) (v := .int (u 21 2)) X hW fs_X8_15_7 dX8_closeRequest_5 (zc_s115 hS) rfl rfl (congrArg Value.int (hN0 _ _ _ _ rfl)) ?_
  refine lv_iload_n X.1 X.2.1 dX8_closeRequest_8 rfl (lv_at hl 1 rfl) ?_
  refine zr_iast (r := 133) X hW dX8_closeRequest_9 (zc_s133 hS) rfl rfl (zi_vp (by omega)) (fun H locs hW => ?_)
  obtain ⟨g_1, hg_1⟩ : ∃ z : zm_T, z = zm_w g 133 (zn (u 21 2)) tk := ⟨_, rfl⟩
  have hW : zw_St Y N0 ad sh g_1 s H locs := by rw [hg_1]; exact hW
  refine lv_aload_n X.1 X.2.1 dX8_closeRequest_10 rfl (lv_at hl 0 rfl) ?_
  refine zr_get (r := 115) (v := .ref (ad 134)) X hW fs_X8_28_7 dX8_closeRequest_11 (zc_s115 hS) rfl rfl rfl ?_
  refine lv_aload_n X.1 X.2.1 dX8_closeRequest_14 rfl (lv_at hl 0 rfl) ?_
  refine zr_get (r := 115) (v := .int (u 21 2)) X hW fs_X8_15_7 dX8_closeRequest_15 (zc_s115 hS) rfl rfl (congrArg Value.int ((show g_1 115 1 = g 115 1 from (by rw [hg_1]; rfl)).trans (hN0 _ _ _ _ rfl))) ?_
  refine lv_iload_n X.1 X.2.1 dX8_closeRequest_18 rfl (lv_at hl 2 rfl) ?_
  refine zr_iast (r := 134) X hW dX8_closeRequest_19 (zc_s134 hS) rfl rfl (zi_vp (by omega)) (fun H locs hW => ?_)
  obtain ⟨g_2, hg_2⟩ : ∃ z : zm_T, z = zm_w g_1 134 (zn (u 21 2)) sk := ⟨_, rfl⟩
  have hW : zw_St Y N0 ad sh g_2 s H locs := by rw [hg_2]; exact hW
  refine lv_aload_n X.1 X.2.1 dX8_closeRequest_20 rfl (lv_at hl 0 rfl) ?_
  refine lv_iconst (v := 0) X.1 X.2.1 dX8_closeRequest_21 (by decide) ?_
  refine zr_puti (r := 115) X hW fs_X8_9_7 dX8_closeRequest_22 (zc_s115 hS) rfl rfl rfl rfl (fun H locs hW => ?_)
  obtain ⟨g_3, hg_3⟩ : ∃ z : zm_T, z = zm_w g_2 115 0 0 := ⟨_, rfl⟩
  have hW : zw_St Y N0 ad sh g_3 s H locs := by rw [hg_3]; exact hW
  exact zr_vret X hW dX8_closeRequest_25 (Nat.le_refl _) (Nat.le_refl _) ⟨rfl, rfl, rfl, by rw [hg_3, hg_2, hg_1]⟩

set_option maxHeartbeats 4000000 in
set_option maxRecDepth 100000 in
theorem c_X8_makeSerial_0 (l : Launch) (Y : zw_Y) (N0 : Nat) (ad : Nat → Nat) (sh : Nat → Option zw_Sh) (g u : zm_T) (hS : zc_S sh) (hN : zc_N g u) : zw_Met l Y N0 yX8_makeSerial cX8_makeSerial 1 (some .int) 0 0 0 0 ad sh g [.ref (ad 115)] (zp_G ad sh (fun v g' => ∃ r : Int32, v = some (.int r) ∧ r = u 25 2 + 1 ∧ g' = zm_w g 115 3 (u 25 2 + 1))) := by
  refine zw_meth (by decide) (Nat.le_of_ble_eq_true rfl) ?_
  intro p e s m below meth c ls X hnm hl hW
  have hl : lv_has ls 1 [(0, .ref (ad 115))] := hl
  have hN0 := hN
  refine lv_aload_n X.1 X.2.1 dX8_makeSerial_0 rfl (lv_at hl 0 rfl) ?_
  refine lv_dup X.1 X.2.1 dX8_makeSerial_1 rfl ?_
  refine zr_get (r := 115) (v := .int (u 25 2)) X hW fs_X8_21_7 dX8_makeSerial_2 (zc_s115 hS) rfl rfl (congrArg Value.int (hN0 _ _ _ _ rfl)) ?_
  refine lv_iconst (v := 1) X.1 X.2.1 dX8_makeSerial_5 (by decide) ?_
  refine lv_iadd X.1 X.2.1 dX8_makeSerial_6 ?_
  refine zr_puti (r := 115) X hW fs_X8_21_7 dX8_makeSerial_7 (zc_s115 hS) rfl rfl rfl rfl (fun H locs hW => ?_)
  obtain ⟨g_1, hg_1⟩ : ∃ z : zm_T, z = zm_w g 115 3 ((u 25 2) + 1) := ⟨_, rfl⟩
  have hW : zw_St Y N0 ad sh g_1 s H locs := by rw [hg_1]; exact hW
  refine lv_aload_n X.1 X.2.1 dX8_makeSerial_10 rfl (lv_at hl 0 rfl) ?_
  refine zr_get (r := 115) (v := .int ((u 25 2) + 1)) X hW fs_X8_21_7 dX8_makeSerial_11 (zc_s115 hS) rfl rfl (congrArg Value.int (show g_1 115 3 = (u 25 2) + 1 from (by rw [hg_1]; exact zm_ws _ _ _ _))) ?_
  exact zr_iret X hW dX8_makeSerial_14 (Nat.le_refl _) (Nat.le_refl _) ⟨rfl, rfl, _, rfl, rfl, by rw [hg_1]⟩

set_option maxHeartbeats 4000000 in
set_option maxRecDepth 100000 in
theorem c_X8_hasRequest_1 (l : Launch) (Y : zw_Y) (N0 : Nat) (ad : Nat → Nat) (sh : Nat → Option zw_Sh) (g u : zm_T) (hS : zc_S sh) (hN : zc_N g u) : zw_Met l Y N0 yX8_hasRequest cX8_hasRequest 1 (some .boolean) 0 0 0 0 ad sh g [.ref (ad 116)] (zp_B ad sh g (¬ (u 20 3).toInt = 0)) := by
  refine zw_meth (by decide) (Nat.le_of_ble_eq_true rfl) ?_
  intro p e s m below meth c ls X hnm hl hW
  have hl : lv_has ls 1 [(0, .ref (ad 116))] := hl
  have hN0 := hN
  refine lv_aload_n X.1 X.2.1 dX8_hasRequest_0 rfl (lv_at hl 0 rfl) ?_
  refine zr_get (r := 116) (v := .int (u 20 3)) X hW fs_X8_9_7 dX8_hasRequest_1 (zc_s116 hS) rfl rfl (congrArg Value.int (hN0 _ _ _ _ rfl)) ?_
  refine zr_if_eq (a := (u 20 3).toInt) (tgt := 11) X dX8_hasRequest_4 (by decide) rfl (fun c_1 => ?_) (fun c_1 => ?_)
  · refine lv_iconst (v := 0) X.1 X.2.1 dX8_hasRequest_11 (by decide) ?_
    exact zr_zret X hW dX8_hasRequest_12 (Nat.le_refl _) (Nat.le_refl _) rfl ⟨rfl, rfl, rfl, Or.inr ⟨by omega, rfl⟩⟩
  · refine lv_iconst (v := 1) X.1 X.2.1 dX8_hasRequest_7 (by decide) ?_
    refine lv_goto (tgt := 12) X.1 X.2.1 dX8_hasRequest_8 (by decide) ?_
    exact zr_zret X hW dX8_hasRequest_12 (Nat.le_refl _) (Nat.le_refl _) rfl ⟨rfl, rfl, rfl, Or.inl ⟨by omega, rfl⟩⟩

set_option maxHeartbeats 4000000 in
set_option maxRecDepth 100000 in
theorem c_X8_hasCredential_1_0 (l : Launch) (Y : zw_Y) (N0 : Nat) (ad : Nat → Nat) (sh : Nat → Option zw_Sh) (g u : zm_T) (hS : zc_S sh) (hN : zc_N g u) (hT : ∀ i : Nat, i < 12 → -1 ≤ (u 23 i).toInt) : zw_Met l Y N0 yX8_hasCredential cX8_hasCredential 2 (some .boolean) 0 0 0 0 ad sh g [.ref (ad 116), .int 0] (zp_B ad sh g (0 ≤ (u 23 6).toInt)) := by
  refine zw_meth (by decide) (Nat.le_of_ble_eq_true rfl) ?_
  intro p e s m below meth c ls X hnm hl hW
  have hl : lv_has ls 2 [(0, .ref (ad 116)), (1, .int 0)] := hl
  have hN0 := hN
  refine lv_aload_n X.1 X.2.1 dX8_hasCredential_0 rfl (lv_at hl 0 rfl) ?_
  refine zr_get (r := 116) (v := .ref (ad 135)) X hW fs_X8_24_7 dX8_hasCredential_1 (zc_s116 hS) rfl rfl rfl ?_
  refine lv_iload_n X.1 X.2.1 dX8_hasCredential_4 rfl (lv_at hl 1 rfl) ?_
  refine zr_iald (r := 135) (v := u 23 6) X hW dX8_hasCredential_5 (zc_s135 hS) rfl rfl (zi_vp (by decide)) ((show g 135 (0 : Int32).toNatClampNeg = g 135 0 from rfl).trans (hN0 _ _ _ _ rfl)) ?_
  refine lv_iconst (v := (-1)) X.1 X.2.1 dX8_hasCredential_6 (by decide) ?_
  refine zr_icmp_eq (a := (u 23 6).toInt) (b := (-1)) (tgt := 14) X dX8_hasCredential_7 (by decide) rfl (by decide) (fun c_1 => ?_) (fun c_1 => ?_)
  · refine lv_iconst (v := 0) X.1 X.2.1 dX8_hasCredential_14 (by decide) ?_
    exact zr_zret X hW dX8_hasCredential_15 (Nat.le_refl _) (Nat.le_refl _) rfl ⟨rfl, rfl, rfl, Or.inr ⟨by have h8 := hT 6 (by omega); omega, rfl⟩⟩
  · refine lv_iconst (v := 1) X.1 X.2.1 dX8_hasCredential_10 (by decide) ?_
    refine lv_goto (tgt := 15) X.1 X.2.1 dX8_hasCredential_11 (by decide) ?_
    exact zr_zret X hW dX8_hasCredential_15 (Nat.le_refl _) (Nat.le_refl _) rfl ⟨rfl, rfl, rfl, Or.inl ⟨by have h8 := hT 6 (by omega); omega, rfl⟩⟩

set_option maxHeartbeats 4000000 in
set_option maxRecDepth 100000 in
theorem c_X8_hasCredential_1_1 (l : Launch) (Y : zw_Y) (N0 : Nat) (ad : Nat → Nat) (sh : Nat → Option zw_Sh) (g u : zm_T) (hS : zc_S sh) (hN : zc_N g u) (hT : ∀ i : Nat, i < 12 → -1 ≤ (u 23 i).toInt) : zw_Met l Y N0 yX8_hasCredential cX8_hasCredential 2 (some .boolean) 0 0 0 0 ad sh g [.ref (ad 116), .int 1] (zp_B ad sh g (0 ≤ (u 23 7).toInt)) := by
  refine zw_meth (by decide) (Nat.le_of_ble_eq_true rfl) ?_
  intro p e s m below meth c ls X hnm hl hW
  have hl : lv_has ls 2 [(0, .ref (ad 116)), (1, .int 1)] := hl
  have hN0 := hN
  refine lv_aload_n X.1 X.2.1 dX8_hasCredential_0 rfl (lv_at hl 0 rfl) ?_
  refine zr_get (r := 116) (v := .ref (ad 135)) X hW fs_X8_24_7 dX8_hasCredential_1 (zc_s116 hS) rfl rfl rfl ?_
  refine lv_iload_n X.1 X.2.1 dX8_hasCredential_4 rfl (lv_at hl 1 rfl) ?_
  refine zr_iald (r := 135) (v := u 23 7) X hW dX8_hasCredential_5 (zc_s135 hS) rfl rfl (zi_vp (by decide)) ((show g 135 (1 : Int32).toNatClampNeg = g 135 1 from rfl).trans (hN0 _ _ _ _ rfl)) ?_
  refine lv_iconst (v := (-1)) X.1 X.2.1 dX8_hasCredential_6 (by decide) ?_
  refine zr_icmp_eq (a := (u 23 7).toInt) (b := (-1)) (tgt := 14) X dX8_hasCredential_7 (by decide) rfl (by decide) (fun c_1 => ?_) (fun c_1 => ?_)
  · refine lv_iconst (v := 0) X.1 X.2.1 dX8_hasCredential_14 (by decide) ?_
    exact zr_zret X hW dX8_hasCredential_15 (Nat.le_refl _) (Nat.le_refl _) rfl ⟨rfl, rfl, rfl, Or.inr ⟨by have h8 := hT 7 (by omega); omega, rfl⟩⟩
  · refine lv_iconst (v := 1) X.1 X.2.1 dX8_hasCredential_10 (by decide) ?_
    refine lv_goto (tgt := 15) X.1 X.2.1 dX8_hasCredential_11 (by decide) ?_
    exact zr_zret X hW dX8_hasCredential_15 (Nat.le_refl _) (Nat.le_refl _) rfl ⟨rfl, rfl, rfl, Or.inl ⟨by have h8 := hT 7 (by omega); omega, rfl⟩⟩

set_option maxHeartbeats 4000000 in
set_option maxRecDepth 100000 in
theorem c_X8_openRequest_1 (l : Launch) (Y : zw_Y) (N0 : Nat) (ad : Nat → Nat) (sh : Nat → Option zw_Sh) (g : zm_T) (hS : zc_S sh) (nc t key : Int32) : zw_Met l Y N0 yX8_openRequest cX8_openRequest 4 none 0 0 0 0 ad sh g [.ref (ad 116), .int nc, .int t, .int key] (zp_G ad sh (fun v g' => v = none ∧ g' = zm_w (zm_w (zm_w g 116 0 nc) 116 1 t) 116 2 key)) := by
  refine zw_meth (by decide) (Nat.le_of_ble_eq_true rfl) ?_
  intro p e s m below meth c ls X hnm hl hW
  have hl : lv_has ls 4 [(0, .ref (ad 116)), (1, .int nc), (2, .int t), (3, .int key)] := hl
  refine lv_aload_n X.1 X.2.1 dX8_openRequest_0 rfl (lv_at hl 0 rfl) ?_
  refine lv_iload_n X.1 X.2.1 dX8_openRequest_1 rfl (lv_at hl 1 rfl) ?_
  refine zr_puti (r := 116) X hW fs_X8_9_7 dX8_openRequest_2 (zc_s116 hS) rfl rfl rfl rfl (fun H locs hW => ?_)
  obtain ⟨g_1, hg_1⟩ : ∃ z : zm_T, z = zm_w g 116 0 nc := ⟨_, rfl⟩
  have hW : zw_St Y N0 ad sh g_1 s H locs := by rw [hg_1]; exact hW
  refine lv_aload_n X.1 X.2.1 dX8_openRequest_5 rfl (lv_at hl 0 rfl) ?_
  refine lv_iload_n X.1 X.2.1 dX8_openRequest_6 rfl (lv_at hl 2 rfl) ?_
  refine zr_puti (r := 116) X hW fs_X8_15_7 dX8_openRequest_7 (zc_s116 hS) rfl rfl rfl rfl (fun H locs hW => ?_)
  obtain ⟨g_2, hg_2⟩ : ∃ z : zm_T, z = zm_w g_1 116 1 t := ⟨_, rfl⟩
  have hW : zw_St Y N0 ad sh g_2 s H locs := by rw [hg_2]; exact hW
  refine lv_aload_n X.1 X.2.1 dX8_openRequest_10 rfl (lv_at hl 0 rfl) ?_
  refine lv_iload_n X.1 X.2.1 dX8_openRequest_11 rfl (lv_at hl 3 rfl) ?_
  refine zr_puti (r := 116) X hW fs_X8_18_7 dX8_openRequest_12 (zc_s116 hS) rfl rfl rfl rfl (fun H locs hW => ?_)
  obtain ⟨g_3, hg_3⟩ : ∃ z : zm_T, z = zm_w g_2 116 2 key := ⟨_, rfl⟩
  have hW : zw_St Y N0 ad sh g_3 s H locs := by rw [hg_3]; exact hW
  exact zr_vret X hW dX8_openRequest_15 (Nat.le_refl _) (Nat.le_refl _) ⟨rfl, rfl, rfl, by rw [hg_3, hg_2, hg_1]⟩

set_option maxHeartbeats 4000000 in
set_option maxRecDepth 100000 in
theorem c_X8_closeRequest_1 (l : Launch) (Y : zw_Y) (N0 : Nat) (ad : Nat → Nat) (sh : Nat → Option zw_Sh) (g u : zm_T) (hS : zc_S sh) (hN : zc_N g u) (tk sk : Int32) (ht : 0 ≤ (u 21 3).toInt ∧ (u 21 3).toInt ≤ 1) : zw_Met l Y N0 yX8_closeRequest cX8_closeRequest 3 none 0 0 0 0 ad sh g [.ref (ad 116), .int tk, .int sk] (zp_G ad sh (fun v g' => v = none ∧ g' = zm_w (zm_w (zm_w g 135 (zn (u 21 3)) tk) 136 (zn (u 21 3)) sk) 116 0 0)) := by
  refine zw_meth (by decide) (Nat.le_of_ble_eq_true rfl) ?_
  intro p e s m below meth c ls X hnm hl hW
  have hl : lv_has ls 3 [(0, .ref (ad 116)), (1, .int tk), (2, .int sk)] := hl
  have hN0 := hN
  refine lv_aload_n X.1 X.2.1 dX8_closeRequest_0 rfl (lv_at hl 0 rfl) ?_
  refine zr_get (r := 116) (v := .ref (ad 135)) X hW fs_X8_24_7 dX8_closeRequest_1 (zc_s116 hS) rfl rfl rfl ?_
  refine lv_aload_n X.1 X.2.1 dX8_closeRequest_4 rfl (lv_at hl 0 rfl) ?_
  refine zr_get (r := 116) (v := .int (u 21 3)) X hW fs_X8_15_7 dX8_closeRequest_5 (zc_s116 hS) rfl rfl (congrArg Value.int (hN0 _ _ _ _ rfl)) ?_
  refine lv_iload_n X.1 X.2.1 dX8_closeRequest_8 rfl (lv_at hl 1 rfl) ?_
  refine zr_iast (r := 135) X hW dX8_closeRequest_9 (zc_s135 hS) rfl rfl (zi_vp (by omega)) (fun H locs hW => ?_)
  obtain ⟨g_1, hg_1⟩ : ∃ z : zm_T, z = zm_w g 135 (zn (u 21 3)) tk := ⟨_, rfl⟩
  have hW : zw_St Y N0 ad sh g_1 s H locs := by rw [hg_1]; exact hW
  refine lv_aload_n X.1 X.2.1 dX8_closeRequest_10 rfl (lv_at hl 0 rfl) ?_
  refine zr_get (r := 116) (v := .ref (ad 136)) X hW fs_X8_28_7 dX8_closeRequest_11 (zc_s116 hS) rfl rfl rfl ?_
  refine lv_aload_n X.1 X.2.1 dX8_closeRequest_14 rfl (lv_at hl 0 rfl) ?_
  refine zr_get (r := 116) (v := .int (u 21 3)) X hW fs_X8_15_7 dX8_closeRequest_15 (zc_s116 hS) rfl rfl (congrArg Value.int ((show g_1 116 1 = g 116 1 from (by rw [hg_1]; rfl)).trans (hN0 _ _ _ _ rfl))) ?_
  refine lv_iload_n X.1 X.2.1 dX8_closeRequest_18 rfl (lv_at hl 2 rfl) ?_
  refine zr_iast (r := 136) X hW dX8_closeRequest_19 (zc_s136 hS) rfl rfl (zi_vp (by omega)) (fun H locs hW => ?_)
  obtain ⟨g_2, hg_2⟩ : ∃ z : zm_T, z = zm_w g_1 136 (zn (u 21 3)) sk := ⟨_, rfl⟩
  have hW : zw_St Y N0 ad sh g_2 s H locs := by rw [hg_2]; exact hW
  refine lv_aload_n X.1 X.2.1 dX8_closeRequest_20 rfl (lv_at hl 0 rfl) ?_
  refine lv_iconst (v := 0) X.1 X.2.1 dX8_closeRequest_21 (by decide) ?_
  refine zr_puti (r := 116) X hW fs_X8_9_7 dX8_closeRequest_22 (zc_s116 hS) rfl rfl rfl rfl (fun H locs hW => ?_)
  obtain ⟨g_3, hg_3⟩ : ∃ z : zm_T, z = zm_w g_2 116 0 0 := ⟨_, rfl⟩
  have hW : zw_St Y N0 ad sh g_3 s H locs := by rw [hg_3]; exact hW
  exact zr_vret X hW dX8_closeRequest_25 (Nat.le_refl _) (Nat.le_refl _) ⟨rfl, rfl, rfl, by rw [hg_3, hg_2, hg_1]⟩

set_option maxHeartbeats 4000000 in
set_option maxRecDepth 100000 in
theorem c_X8_makeSerial_1 (l : Launch) (Y : zw_Y) (N0 : Nat) (ad : Nat → Nat) (sh : Nat → Option zw_Sh) (g u : zm_T) (hS : zc_S sh) (hN : zc_N g u) : zw_Met l Y N0 yX8_makeSerial cX8_makeSerial 1 (some .int) 0 0 0 0 ad sh g [.ref (ad 116)] (zp_G ad sh (fun v g' => ∃ r : Int32, v = some (.int r) ∧ r = u 25 3 + 1 ∧ g' = zm_w g 116 3 (u 25 3 + 1))) := by
  refine zw_meth (by decide) (Nat.le_of_ble_eq_true rfl) ?_
  intro p e s m below meth c ls X hnm hl hW
  have hl : lv_has ls 1 [(0, .ref (ad 116))] := hl
  have hN0 := hN
  refine lv_aload_n X.1 X.2.1 dX8_makeSerial_0 rfl (lv_at hl 0 rfl) ?_
  refine lv_dup X.1 X.2.1 dX8_makeSerial_1 rfl ?_
  refine zr_get (r := 116) (v := .int (u 25 3)) X hW fs_X8_21_7 dX8_makeSerial_2 (zc_s116 hS) rfl rfl (congrArg Value.int (hN0 _ _ _ _ rfl)) ?_
  refine lv_iconst (v := 1) X.1 X.2.1 dX8_makeSerial_5 (by decide) ?_
  refine lv_iadd X.1 X.2.1 dX8_makeSerial_6 ?_
  refine zr_puti (r := 116) X hW fs_X8_21_7 dX8_makeSerial_7 (zc_s116 hS) rfl rfl rfl rfl (fun H locs hW => ?_)
  obtain ⟨g_1, hg_1⟩ : ∃ z : zm_T, z = zm_w g 116 3 ((u 25 3) + 1) := ⟨_, rfl⟩
  have hW : zw_St Y N0 ad sh g_1 s H locs := by rw [hg_1]; exact hW
  refine lv_aload_n X.1 X.2.1 dX8_makeSerial_10 rfl (lv_at hl 0 rfl) ?_
  refine zr_get (r := 116) (v := .int ((u 25 3) + 1)) X hW fs_X8_21_7 dX8_makeSerial_11 (zc_s116 hS) rfl rfl (congrArg Value.int (show g_1 116 3 = (u 25 3) + 1 from (by rw [hg_1]; exact zm_ws _ _ _ _))) ?_
  exact zr_iret X hW dX8_makeSerial_14 (Nat.le_refl _) (Nat.le_refl _) ⟨rfl, rfl, _, rfl, rfl, by rw [hg_1]⟩

set_option maxHeartbeats 4000000 in
set_option maxRecDepth 100000 in
theorem c_X8_hasRequest_2 (l : Launch) (Y : zw_Y) (N0 : Nat) (ad : Nat → Nat) (sh : Nat → Option zw_Sh) (g u : zm_T) (hS : zc_S sh) (hN : zc_N g u) : zw_Met l Y N0 yX8_hasRequest cX8_hasRequest 1 (some .boolean) 0 0 0 0 ad sh g [.ref (ad 117)] (zp_B ad sh g (¬ (u 20 4).toInt = 0)) := by
  refine zw_meth (by decide) (Nat.le_of_ble_eq_true rfl) ?_
  intro p e s m below meth c ls X hnm hl hW
  have hl : lv_has ls 1 [(0, .ref (ad 117))] := hl
  have hN0 := hN
  refine lv_aload_n X.1 X.2.1 dX8_hasRequest_0 rfl (lv_at hl 0 rfl) ?_
  refine zr_get (r := 117) (v := .int (u 20 4)) X hW fs_X8_9_7 dX8_hasRequest_1 (zc_s117 hS) rfl rfl (congrArg Value.int (hN0 _ _ _ _ rfl)) ?_
  refine zr_if_eq (a := (u 20 4).toInt) (tgt := 11) X dX8_hasRequest_4 (by decide) rfl (fun c_1 => ?_) (fun c_1 => ?_)
  · refine lv_iconst (v := 0) X.1 X.2.1 dX8_hasRequest_11 (by decide) ?_
    exact zr_zret X hW dX8_hasRequest_12 (Nat.le_refl _) (Nat.le_refl _) rfl ⟨rfl, rfl, rfl, Or.inr ⟨by omega, rfl⟩⟩
  · refine lv_iconst (v := 1) X.1 X.2.1 dX8_hasRequest_7 (by decide) ?_
    refine lv_goto (tgt := 12) X.1 X.2.1 dX8_hasRequest_8 (by decide) ?_
    exact zr_zret X hW dX8_hasRequest_12 (Nat.le_refl _) (Nat.le_refl _) rfl ⟨rfl, rfl, rfl, Or.inl ⟨by omega, rfl⟩⟩

set_option maxHeartbeats 4000000 in
set_option maxRecDepth 100000 in
theorem c_X8_hasCredential_2_0 (l : Launch) (Y : zw_Y) (N0 : Nat) (ad : Nat → Nat) (sh : Nat → Option zw_Sh) (g u : zm_T) (hS : zc_S sh) (hN : zc_N g u) (hT : ∀ i : Nat, i < 12 → -1 ≤ (u 23 i).toInt) : zw_Met l Y N0 yX8_hasCredential cX8_hasCredential 2 (some .boolean) 0 0 0 0 ad sh g [.ref (ad 117), .int 0] (zp_B ad sh g (0 ≤ (u 23 8).toInt)) := by
  refine zw_meth (by decide) (Nat.le_of_ble_eq_true rfl) ?_
  intro p e s m below meth c ls X hnm hl hW
  have hl : lv_has ls 2 [(0, .ref (ad 117)), (1, .int 0)] := hl
  have hN0 := hN
  refine lv_aload_n X.1 X.2.1 dX8_hasCredential_0 rfl (lv_at hl 0 rfl) ?_
  refine zr_get (r := 117) (v := .ref (ad 137)) X hW fs_X8_24_7 dX8_hasCredential_1 (zc_s117 hS) rfl rfl rfl ?_
  refine lv_iload_n X.1 X.2.1 dX8_hasCredential_4 rfl (lv_at hl 1 rfl) ?_
  refine zr_iald (r := 137) (v := u 23 8) X hW dX8_hasCredential_5 (zc_s137 hS) rfl rfl (zi_vp (by decide)) ((show g 137 (0 : Int32).toNatClampNeg = g 137 0 from rfl).trans (hN0 _ _ _ _ rfl)) ?_
  refine lv_iconst (v := (-1)) X.1 X.2.1 dX8_hasCredential_6 (by decide) ?_
  refine zr_icmp_eq (a := (u 23 8).toInt) (b := (-1)) (tgt := 14) X dX8_hasCredential_7 (by decide) rfl (by decide) (fun c_1 => ?_) (fun c_1 => ?_)
  · refine lv_iconst (v := 0) X.1 X.2.1 dX8_hasCredential_14 (by decide) ?_
    exact zr_zret X hW dX8_hasCredential_15 (Nat.le_refl _) (Nat.le_refl _) rfl ⟨rfl, rfl, rfl, Or.inr ⟨by have h8 := hT 8 (by omega); omega, rfl⟩⟩
  · refine lv_iconst (v := 1) X.1 X.2.1 dX8_hasCredential_10 (by decide) ?_
    refine lv_goto (tgt := 15) X.1 X.2.1 dX8_hasCredential_11 (by decide) ?_
    exact zr_zret X hW dX8_hasCredential_15 (Nat.le_refl _) (Nat.le_refl _) rfl ⟨rfl, rfl, rfl, Or.inl ⟨by have h8 := hT 8 (by omega); omega, rfl⟩⟩

set_option maxHeartbeats 4000000 in
set_option maxRecDepth 100000 in
theorem c_X8_hasCredential_2_1 (l : Launch) (Y : zw_Y) (N0 : Nat) (ad : Nat → Nat) (sh : Nat → Option zw_Sh) (g u : zm_T) (hS : zc_S sh) (hN : zc_N g u) (hT : ∀ i : Nat, i < 12 → -1 ≤ (u 23 i).toInt) : zw_Met l Y N0 yX8_hasCredential cX8_hasCredential 2 (some .boolean) 0 0 0 0 ad sh g [.ref (ad 117), .int 1] (zp_B ad sh g (0 ≤ (u 23 9).toInt)) := by
  refine zw_meth (by decide) (Nat.le_of_ble_eq_true rfl) ?_
  intro p e s m below meth c ls X hnm hl hW
  have hl : lv_has ls 2 [(0, .ref (ad 117)), (1, .int 1)] := hl
  have hN0 := hN
  refine lv_aload_n X.1 X.2.1 dX8_hasCredential_0 rfl (lv_at hl 0 rfl) ?_
  refine zr_get (r := 117) (v := .ref (ad 137)) X hW fs_X8_24_7 dX8_hasCredential_1 (zc_s117 hS) rfl rfl rfl ?_
  refine lv_iload_n X.1 X.2.1 dX8_hasCredential_4 rfl (lv_at hl 1 rfl) ?_
  refine zr_iald (r := 137) (v := u 23 9) X hW dX8_hasCredential_5 (zc_s137 hS) rfl rfl (zi_vp (by decide)) ((show g 137 (1 : Int32).toNatClampNeg = g 137 1 from rfl).trans (hN0 _ _ _ _ rfl)) ?_
  refine lv_iconst (v := (-1)) X.1 X.2.1 dX8_hasCredential_6 (by decide) ?_
  refine zr_icmp_eq (a := (u 23 9).toInt) (b := (-1)) (tgt := 14) X dX8_hasCredential_7 (by decide) rfl (by decide) (fun c_1 => ?_) (fun c_1 => ?_)
  · refine lv_iconst (v := 0) X.1 X.2.1 dX8_hasCredential_14 (by decide) ?_
    exact zr_zret X hW dX8_hasCredential_15 (Nat.le_refl _) (Nat.le_refl _) rfl ⟨rfl, rfl, rfl, Or.inr ⟨by have h8 := hT 9 (by omega); omega, rfl⟩⟩
  · refine lv_iconst (v := 1) X.1 X.2.1 dX8_hasCredential_10 (by decide) ?_
    refine lv_goto (tgt := 15) X.1 X.2.1 dX8_hasCredential_11 (by decide) ?_
    exact zr_zret X hW dX8_hasCredential_15 (Nat.le_refl _) (Nat.le_refl _) rfl ⟨rfl, rfl, rfl, Or.inl ⟨by have h8 := hT 9 (by omega); omega, rfl⟩⟩

set_option maxHeartbeats 4000000 in
set_option maxRecDepth 100000 in
theorem c_X8_openRequest_2 (l : Launch) (Y : zw_Y) (N0 : Nat) (ad : Nat → Nat) (sh : Nat → Option zw_Sh) (g : zm_T) (hS : zc_S sh) (nc t key : Int32) : zw_Met l Y N0 yX8_openRequest cX8_openRequest 4 none 0 0 0 0 ad sh g [.ref (ad 117), .int nc, .int t, .int key] (zp_G ad sh (fun v g' => v = none ∧ g' = zm_w (zm_w (zm_w g 117 0 nc) 117 1 t) 117 2 key)) := by
  refine zw_meth (by decide) (Nat.le_of_ble_eq_true rfl) ?_
  intro p e s m below meth c ls X hnm hl hW
  have hl : lv_has ls 4 [(0, .ref (ad 117)), (1, .int nc), (2, .int t), (3, .int key)] := hl
  refine lv_aload_n X.1 X.2.1 dX8_openRequest_0 rfl (lv_at hl 0 rfl) ?_
  refine lv_iload_n X.1 X.2.1 dX8_openRequest_1 rfl (lv_at hl 1 rfl) ?_
  refine zr_puti (r := 117) X hW fs_X8_9_7 dX8_openRequest_2 (zc_s117 hS) rfl rfl rfl rfl (fun H locs hW => ?_)
  obtain ⟨g_1, hg_1⟩ : ∃ z : zm_T, z = zm_w g 117 0 nc := ⟨_, rfl⟩
  have hW : zw_St Y N0 ad sh g_1 s H locs := by rw [hg_1]; exact hW
  refine lv_aload_n X.1 X.2.1 dX8_openRequest_5 rfl (lv_at hl 0 rfl) ?_
  refine lv_iload_n X.1 X.2.1 dX8_openRequest_6 rfl (lv_at hl 2 rfl) ?_
  refine zr_puti (r := 117) X hW fs_X8_15_7 dX8_openRequest_7 (zc_s117 hS) rfl rfl rfl rfl (fun H locs hW => ?_)
  obtain ⟨g_2, hg_2⟩ : ∃ z : zm_T, z = zm_w g_1 117 1 t := ⟨_, rfl⟩
  have hW : zw_St Y N0 ad sh g_2 s H locs := by rw [hg_2]; exact hW
  refine lv_aload_n X.1 X.2.1 dX8_openRequest_10 rfl (lv_at hl 0 rfl) ?_
  refine lv_iload_n X.1 X.2.1 dX8_openRequest_11 rfl (lv_at hl 3 rfl) ?_
  refine zr_puti (r := 117) X hW fs_X8_18_7 dX8_openRequest_12 (zc_s117 hS) rfl rfl rfl rfl (fun H locs hW => ?_)
  obtain ⟨g_3, hg_3⟩ : ∃ z : zm_T, z = zm_w g_2 117 2 key := ⟨_, rfl⟩
  have hW : zw_St Y N0 ad sh g_3 s H locs := by rw [hg_3]; exact hW
  exact zr_vret X hW dX8_openRequest_15 (Nat.le_refl _) (Nat.le_refl _) ⟨rfl, rfl, rfl, by rw [hg_3, hg_2, hg_1]⟩

set_option maxHeartbeats 4000000 in
set_option maxRecDepth 100000 in
theorem c_X8_closeRequest_2 (l : Launch) (Y : zw_Y) (N0 : Nat) (ad : Nat → Nat) (sh : Nat → Option zw_Sh) (g u : zm_T) (hS : zc_S sh) (hN : zc_N g u) (tk sk : Int32) (ht : 0 ≤ (u 21 4).toInt ∧ (u 21 4).toInt ≤ 1) : zw_Met l Y N0 yX8_closeRequest cX8_closeRequest 3 none 0 0 0 0 ad sh g [.ref (ad 117), .int tk, .int sk] (zp_G ad sh (fun v g' => v = none ∧ g' = zm_w (zm_w (zm_w g 137 (zn (u 21 4)) tk) 138 (zn (u 21 4)) sk) 117 0 0)) := by
  refine zw_meth (by decide) (Nat.le_of_ble_eq_true rfl) ?_
  intro p e s m below meth c ls X hnm hl hW
  have hl : lv_has ls 3 [(0, .ref (ad 117)), (1, .int tk), (2, .int sk)] := hl
  have hN0 := hN
  refine lv_aload_n X.1 X.2.1 dX8_closeRequest_0 rfl (lv_at hl 0 rfl) ?_
  refine zr_get (r := 117) (v := .ref (ad 137)) X hW fs_X8_24_7 dX8_closeRequest_1 (zc_s117 hS) rfl rfl rfl ?_
  refine lv_aload_n X.1 X.2.1 dX8_closeRequest_4 rfl (lv_at hl 0 rfl) ?_
  refine zr_get (r := 117) (v := .int (u 21 4)) X hW fs_X8_15_7 dX8_closeRequest_5 (zc_s117 hS) rfl rfl (congrArg Value.int (hN0 _ _ _ _ rfl)) ?_
  refine lv_iload_n X.1 X.2.1 dX8_closeRequest_8 rfl (lv_at hl 1 rfl) ?_
  refine zr_iast (r := 137) X hW dX8_closeRequest_9 (zc_s137 hS) rfl rfl (zi_vp (by omega)) (fun H locs hW => ?_)
  obtain ⟨g_1, hg_1⟩ : ∃ z : zm_T, z = zm_w g 137 (zn (u 21 4)) tk := ⟨_, rfl⟩
  have hW : zw_St Y N0 ad sh g_1 s H locs := by rw [hg_1]; exact hW
  refine lv_aload_n X.1 X.2.1 dX8_closeRequest_10 rfl (lv_at hl 0 rfl) ?_
  refine zr_get (r := 117) (v := .ref (ad 138)) X hW fs_X8_28_7 dX8_closeRequest_11 (zc_s117 hS) rfl rfl rfl ?_
  refine lv_aload_n X.1 X.2.1 dX8_closeRequest_14 rfl (lv_at hl 0 rfl) ?_
  refine zr_get (r := 117) (v := .int (u 21 4)) X hW fs_X8_15_7 dX8_closeRequest_15 (zc_s117 hS) rfl rfl (congrArg Value.int ((show g_1 117 1 = g 117 1 from (by rw [hg_1]; rfl)).trans (hN0 _ _ _ _ rfl))) ?_
  refine lv_iload_n X.1 X.2.1 dX8_closeRequest_18 rfl (lv_at hl 2 rfl) ?_
  refine zr_iast (r := 138) X hW dX8_closeRequest_19 (zc_s138 hS) rfl rfl (zi_vp (by omega)) (fun H locs hW => ?_)
  obtain ⟨g_2, hg_2⟩ : ∃ z : zm_T, z = zm_w g_1 138 (zn (u 21 4)) sk := ⟨_, rfl⟩
  have hW : zw_St Y N0 ad sh g_2 s H locs := by rw [hg_2]; exact hW
  refine lv_aload_n X.1 X.2.1 dX8_closeRequest_20 rfl (lv_at hl 0 rfl) ?_
  refine lv_iconst (v := 0) X.1 X.2.1 dX8_closeRequest_21 (by decide) ?_
  refine zr_puti (r := 117) X hW fs_X8_9_7 dX8_closeRequest_22 (zc_s117 hS) rfl rfl rfl rfl (fun H locs hW => ?_)
  obtain ⟨g_3, hg_3⟩ : ∃ z : zm_T, z = zm_w g_2 117 0 0 := ⟨_, rfl⟩
  have hW : zw_St Y N0 ad sh g_3 s H locs := by rw [hg_3]; exact hW
  exact zr_vret X hW dX8_closeRequest_25 (Nat.le_refl _) (Nat.le_refl _) ⟨rfl, rfl, rfl, by rw [hg_3, hg_2, hg_1]⟩

set_option maxHeartbeats 4000000 in
set_option maxRecDepth 100000 in
theorem c_X8_makeSerial_2 (l : Launch) (Y : zw_Y) (N0 : Nat) (ad : Nat → Nat) (sh : Nat → Option zw_Sh) (g u : zm_T) (hS : zc_S sh) (hN : zc_N g u) : zw_Met l Y N0 yX8_makeSerial cX8_makeSerial 1 (some .int) 0 0 0 0 ad sh g [.ref (ad 117)] (zp_G ad sh (fun v g' => ∃ r : Int32, v = some (.int r) ∧ r = u 25 4 + 1 ∧ g' = zm_w g 117 3 (u 25 4 + 1))) := by
  refine zw_meth (by decide) (Nat.le_of_ble_eq_true rfl) ?_
  intro p e s m below meth c ls X hnm hl hW
  have hl : lv_has ls 1 [(0, .ref (ad 117))] := hl
  have hN0 := hN
  refine lv_aload_n X.1 X.2.1 dX8_makeSerial_0 rfl (lv_at hl 0 rfl) ?_
  refine lv_dup X.1 X.2.1 dX8_makeSerial_1 rfl ?_
  refine zr_get (r := 117) (v := .int (u 25 4)) X hW fs_X8_21_7 dX8_makeSerial_2 (zc_s117 hS) rfl rfl (congrArg Value.int (hN0 _ _ _ _ rfl)) ?_
  refine lv_iconst (v := 1) X.1 X.2.1 dX8_makeSerial_5 (by decide) ?_
  refine lv_iadd X.1 X.2.1 dX8_makeSerial_6 ?_
  refine zr_puti (r := 117) X hW fs_X8_21_7 dX8_makeSerial_7 (zc_s117 hS) rfl rfl rfl rfl (fun H locs hW => ?_)
  obtain ⟨g_1, hg_1⟩ : ∃ z : zm_T, z = zm_w g 117 3 ((u 25 4) + 1) := ⟨_, rfl⟩
  have hW : zw_St Y N0 ad sh g_1 s H locs := by rw [hg_1]; exact hW
  refine lv_aload_n X.1 X.2.1 dX8_makeSerial_10 rfl (lv_at hl 0 rfl) ?_
  refine zr_get (r := 117) (v := .int ((u 25 4) + 1)) X hW fs_X8_21_7 dX8_makeSerial_11 (zc_s117 hS) rfl rfl (congrArg Value.int (show g_1 117 3 = (u 25 4) + 1 from (by rw [hg_1]; exact zm_ws _ _ _ _))) ?_
  exact zr_iret X hW dX8_makeSerial_14 (Nat.le_refl _) (Nat.le_refl _) ⟨rfl, rfl, _, rfl, rfl, by rw [hg_1]⟩

set_option maxHeartbeats 4000000 in
set_option maxRecDepth 100000 in
theorem c_X8_hasRequest_3 (l : Launch) (Y : zw_Y) (N0 : Nat) (ad : Nat → Nat) (sh : Nat → Option zw_Sh) (g u : zm_T) (hS : zc_S sh) (hN : zc_N g u) : zw_Met l Y N0 yX8_hasRequest cX8_hasRequest 1 (some .boolean) 0 0 0 0 ad sh g [.ref (ad 118)] (zp_B ad sh g (¬ (u 20 5).toInt = 0)) := by
  refine zw_meth (by decide) (Nat.le_of_ble_eq_true rfl) ?_
  intro p e s m below meth c ls X hnm hl hW
  have hl : lv_has ls 1 [(0, .ref (ad 118))] := hl
  have hN0 := hN
  refine lv_aload_n X.1 X.2.1 dX8_hasRequest_0 rfl (lv_at hl 0 rfl) ?_
  refine zr_get (r := 118) (v := .int (u 20 5)) X hW fs_X8_9_7 dX8_hasRequest_1 (zc_s118 hS) rfl rfl (congrArg Value.int (hN0 _ _ _ _ rfl)) ?_
  refine zr_if_eq (a := (u 20 5).toInt) (tgt := 11) X dX8_hasRequest_4 (by decide) rfl (fun c_1 => ?_) (fun c_1 => ?_)
  · refine lv_iconst (v := 0) X.1 X.2.1 dX8_hasRequest_11 (by decide) ?_
    exact zr_zret X hW dX8_hasRequest_12 (Nat.le_refl _) (Nat.le_refl _) rfl ⟨rfl, rfl, rfl, Or.inr ⟨by omega, rfl⟩⟩
  · refine lv_iconst (v := 1) X.1 X.2.1 dX8_hasRequest_7 (by decide) ?_
    refine lv_goto (tgt := 12) X.1 X.2.1 dX8_hasRequest_8 (by decide) ?_
    exact zr_zret X hW dX8_hasRequest_12 (Nat.le_refl _) (Nat.le_refl _) rfl ⟨rfl, rfl, rfl, Or.inl ⟨by omega, rfl⟩⟩

set_option maxHeartbeats 4000000 in
set_option maxRecDepth 100000 in
theorem c_X8_hasCredential_3_0 (l : Launch) (Y : zw_Y) (N0 : Nat) (ad : Nat → Nat) (sh : Nat → Option zw_Sh) (g u : zm_T) (hS : zc_S sh) (hN : zc_N g u) (hT : ∀ i : Nat, i < 12 → -1 ≤ (u 23 i).toInt) : zw_Met l Y N0 yX8_hasCredential cX8_hasCredential 2 (some .boolean) 0 0 0 0 ad sh g [.ref (ad 118), .int 0] (zp_B ad sh g (0 ≤ (u 23 10).toInt)) := by
  refine zw_meth (by decide) (Nat.le_of_ble_eq_true rfl) ?_
  intro p e s m below meth c ls X hnm hl hW
  have hl : lv_has ls 2 [(0, .ref (ad 118)), (1, .int 0)] := hl
  have hN0 := hN
  refine lv_aload_n X.1 X.2.1 dX8_hasCredential_0 rfl (lv_at hl 0 rfl) ?_
  refine zr_get (r := 118) (v := .ref (ad 139)) X hW fs_X8_24_7 dX8_hasCredential_1 (zc_s118 hS) rfl rfl rfl ?_
  refine lv_iload_n X.1 X.2.1 dX8_hasCredential_4 rfl (lv_at hl 1 rfl) ?_
  refine zr_iald (r := 139) (v := u 23 10) X hW dX8_hasCredential_5 (zc_s139 hS) rfl rfl (zi_vp (by decide)) ((show g 139 (0 : Int32).toNatClampNeg = g 139 0 from rfl).trans (hN0 _ _ _ _ rfl)) ?_
  refine lv_iconst (v := (-1)) X.1 X.2.1 dX8_hasCredential_6 (by decide) ?_
  refine zr_icmp_eq (a := (u 23 10).toInt) (b := (-1)) (tgt := 14) X dX8_hasCredential_7 (by decide) rfl (by decide) (fun c_1 => ?_) (fun c_1 => ?_)
  · refine lv_iconst (v := 0) X.1 X.2.1 dX8_hasCredential_14 (by decide) ?_
    exact zr_zret X hW dX8_hasCredential_15 (Nat.le_refl _) (Nat.le_refl _) rfl ⟨rfl, rfl, rfl, Or.inr ⟨by have h8 := hT 10 (by omega); omega, rfl⟩⟩
  · refine lv_iconst (v := 1) X.1 X.2.1 dX8_hasCredential_10 (by decide) ?_
    refine lv_goto (tgt := 15) X.1 X.2.1 dX8_hasCredential_11 (by decide) ?_
    exact zr_zret X hW dX8_hasCredential_15 (Nat.le_refl _) (Nat.le_refl _) rfl ⟨rfl, rfl, rfl, Or.inl ⟨by have h8 := hT 10 (by omega); omega, rfl⟩⟩

set_option maxHeartbeats 4000000 in
set_option maxRecDepth 100000 in
theorem c_X8_hasCredential_3_1 (l : Launch) (Y : zw_Y) (N0 : Nat) (ad : Nat → Nat) (sh : Nat → Option zw_Sh) (g u : zm_T) (hS : zc_S sh) (hN : zc_N g u) (hT : ∀ i : Nat, i < 12 → -1 ≤ (u 23 i).toInt) : zw_Met l Y N0 yX8_hasCredential cX8_hasCredential 2 (some .boolean) 0 0 0 0 ad sh g [.ref (ad 118), .int 1] (zp_B ad sh g (0 ≤ (u 23 11).toInt)) := by
  refine zw_meth (by decide) (Nat.le_of_ble_eq_true rfl) ?_
  intro p e s m below meth c ls X hnm hl hW
  have hl : lv_has ls 2 [(0, .ref (ad 118)), (1, .int 1)] := hl
  have hN0 := hN
  refine lv_aload_n X.1 X.2.1 dX8_hasCredential_0 rfl (lv_at hl 0 rfl) ?_
  refine zr_get (r := 118) (v := .ref (ad 139)) X hW fs_X8_24_7 dX8_hasCredential_1 (zc_s118 hS) rfl rfl rfl ?_
  refine lv_iload_n X.1 X.2.1 dX8_hasCredential_4 rfl (lv_at hl 1 rfl) ?_
  refine zr_iald (r := 139) (v := u 23 11) X hW dX8_hasCredential_5 (zc_s139 hS) rfl rfl (zi_vp (by decide)) ((show g 139 (1 : Int32).toNatClampNeg = g 139 1 from rfl).trans (hN0 _ _ _ _ rfl)) ?_
  refine lv_iconst (v := (-1)) X.1 X.2.1 dX8_hasCredential_6 (by decide) ?_
  refine zr_icmp_eq (a := (u 23 11).toInt) (b := (-1)) (tgt := 14) X dX8_hasCredential_7 (by decide) rfl (by decide) (fun c_1 => ?_) (fun c_1 => ?_)
  · refine lv_iconst (v := 0) X.1 X.2.1 dX8_hasCredential_14 (by decide) ?_
    exact zr_zret X hW dX8_hasCredential_15 (Nat.le_refl _) (Nat.le_refl _) rfl ⟨rfl, rfl, rfl, Or.inr ⟨by have h8 := hT 11 (by omega); omega, rfl⟩⟩
  · refine lv_iconst (v := 1) X.1 X.2.1 dX8_hasCredential_10 (by decide) ?_
    refine lv_goto (tgt := 15) X.1 X.2.1 dX8_hasCredential_11 (by decide) ?_
    exact zr_zret X hW dX8_hasCredential_15 (Nat.le_refl _) (Nat.le_refl _) rfl ⟨rfl, rfl, rfl, Or.inl ⟨by have h8 := hT 11 (by omega); omega, rfl⟩⟩

set_option maxHeartbeats 4000000 in
set_option maxRecDepth 100000 in
theorem c_X8_openRequest_3 (l : Launch) (Y : zw_Y) (N0 : Nat) (ad : Nat → Nat) (sh : Nat → Option zw_Sh) (g : zm_T) (hS : zc_S sh) (nc t key : Int32) : zw_Met l Y N0 yX8_openRequest cX8_openRequest 4 none 0 0 0 0 ad sh g [.ref (ad 118), .int nc, .int t, .int key] (zp_G ad sh (fun v g' => v = none ∧ g' = zm_w (zm_w (zm_w g 118 0 nc) 118 1 t) 118 2 key)) := by
  refine zw_meth (by decide) (Nat.le_of_ble_eq_true rfl) ?_
  intro p e s m below meth c ls X hnm hl hW
  have hl : lv_has ls 4 [(0, .ref (ad 118)), (1, .int nc), (2, .int t), (3, .int key)] := hl
  refine lv_aload_n X.1 X.2.1 dX8_openRequest_0 rfl (lv_at hl 0 rfl) ?_
  refine lv_iload_n X.1 X.2.1 dX8_openRequest_1 rfl (lv_at hl 1 rfl) ?_
  refine zr_puti (r := 118) X hW fs_X8_9_7 dX8_openRequest_2 (zc_s118 hS) rfl rfl rfl rfl (fun H locs hW => ?_)
  obtain ⟨g_1, hg_1⟩ : ∃ z : zm_T, z = zm_w g 118 0 nc := ⟨_, rfl⟩
  have hW : zw_St Y N0 ad sh g_1 s H locs := by rw [hg_1]; exact hW
  refine lv_aload_n X.1 X.2.1 dX8_openRequest_5 rfl (lv_at hl 0 rfl) ?_
  refine lv_iload_n X.1 X.2.1 dX8_openRequest_6 rfl (lv_at hl 2 rfl) ?_
  refine zr_puti (r := 118) X hW fs_X8_15_7 dX8_openRequest_7 (zc_s118 hS) rfl rfl rfl rfl (fun H locs hW => ?_)
  obtain ⟨g_2, hg_2⟩ : ∃ z : zm_T, z = zm_w g_1 118 1 t := ⟨_, rfl⟩
  have hW : zw_St Y N0 ad sh g_2 s H locs := by rw [hg_2]; exact hW
  refine lv_aload_n X.1 X.2.1 dX8_openRequest_10 rfl (lv_at hl 0 rfl) ?_
  refine lv_iload_n X.1 X.2.1 dX8_openRequest_11 rfl (lv_at hl 3 rfl) ?_
  refine zr_puti (r := 118) X hW fs_X8_18_7 dX8_openRequest_12 (zc_s118 hS) rfl rfl rfl rfl (fun H locs hW => ?_)
  obtain ⟨g_3, hg_3⟩ : ∃ z : zm_T, z = zm_w g_2 118 2 key := ⟨_, rfl⟩
  have hW : zw_St Y N0 ad sh g_3 s H locs := by rw [hg_3]; exact hW
  exact zr_vret X hW dX8_openRequest_15 (Nat.le_refl _) (Nat.le_refl _) ⟨rfl, rfl, rfl, by rw [hg_3, hg_2, hg_1]⟩

set_option maxHeartbeats 4000000 in
set_option maxRecDepth 100000 in
theorem c_X8_closeRequest_3 (l : Launch) (Y : zw_Y) (N0 : Nat) (ad : Nat → Nat) (sh : Nat → Option zw_Sh) (g u : zm_T) (hS : zc_S sh) (hN : zc_N g u) (tk sk : Int32) (ht : 0 ≤ (u 21 5).toInt ∧ (u 21 5).toInt ≤ 1) : zw_Met l Y N0 yX8_closeRequest cX8_closeRequest 3 none 0 0 0 0 ad sh g [.ref (ad 118), .int tk, .int sk] (zp_G ad sh (fun v g' => v = none ∧ g' = zm_w (zm_w (zm_w g 139 (zn (u 21 5)) tk) 140 (zn (u 21 5)) sk) 118 0 0)) := by
  refine zw_meth (by decide) (Nat.le_of_ble_eq_true rfl) ?_
  intro p e s m below meth c ls X hnm hl hW
  have hl : lv_has ls 3 [(0, .ref (ad 118)), (1, .int tk), (2, .int sk)] := hl
  have hN0 := hN
  refine lv_aload_n X.1 X.2.1 dX8_closeRequest_0 rfl (lv_at hl 0 rfl) ?_
  refine zr_get (r := 118) (v := .ref (ad 139)) X hW fs_X8_24_7 dX8_closeRequest_1 (zc_s118 hS) rfl rfl rfl ?_
  refine lv_aload_n X.1 X.2.1 dX8_closeRequest_4 rfl (lv_at hl 0 rfl) ?_
  refine zr_get (r := 118) (v := .int (u 21 5)) X hW fs_X8_15_7 dX8_closeRequest_5 (zc_s118 hS) rfl rfl (congrArg Value.int (hN0 _ _ _ _ rfl)) ?_
  refine lv_iload_n X.1 X.2.1 dX8_closeRequest_8 rfl (lv_at hl 1 rfl) ?_
  refine zr_iast (r := 139) X hW dX8_closeRequest_9 (zc_s139 hS) rfl rfl (zi_vp (by omega)) (fun H locs hW => ?_)
  obtain ⟨g_1, hg_1⟩ : ∃ z : zm_T, z = zm_w g 139 (zn (u 21 5)) tk := ⟨_, rfl⟩
  have hW : zw_St Y N0 ad sh g_1 s H locs := by rw [hg_1]; exact hW
  refine lv_aload_n X.1 X.2.1 dX8_closeRequest_10 rfl (lv_at hl 0 rfl) ?_
  refine zr_get (r := 118) (v := .ref (ad 140)) X hW fs_X8_28_7 dX8_closeRequest_11 (zc_s118 hS) rfl rfl rfl ?_
  refine lv_aload_n X.1 X.2.1 dX8_closeRequest_14 rfl (lv_at hl 0 rfl) ?_
  refine zr_get (r := 118) (v := .int (u 21 5)) X hW fs_X8_15_7 dX8_closeRequest_15 (zc_s118 hS) rfl rfl (congrArg Value.int ((show g_1 118 1 = g 118 1 from (by rw [hg_1]; rfl)).trans (hN0 _ _ _ _ rfl))) ?_
  refine lv_iload_n X.1 X.2.1 dX8_closeRequest_18 rfl (lv_at hl 2 rfl) ?_
  refine zr_iast (r := 140) X hW dX8_closeRequest_19 (zc_s140 hS) rfl rfl (zi_vp (by omega)) (fun H locs hW => ?_)
  obtain ⟨g_2, hg_2⟩ : ∃ z : zm_T, z = zm_w g_1 140 (zn (u 21 5)) sk := ⟨_, rfl⟩
  have hW : zw_St Y N0 ad sh g_2 s H locs := by rw [hg_2]; exact hW
  refine lv_aload_n X.1 X.2.1 dX8_closeRequest_20 rfl (lv_at hl 0 rfl) ?_
  refine lv_iconst (v := 0) X.1 X.2.1 dX8_closeRequest_21 (by decide) ?_
  refine zr_puti (r := 118) X hW fs_X8_9_7 dX8_closeRequest_22 (zc_s118 hS) rfl rfl rfl rfl (fun H locs hW => ?_)
  obtain ⟨g_3, hg_3⟩ : ∃ z : zm_T, z = zm_w g_2 118 0 0 := ⟨_, rfl⟩
  have hW : zw_St Y N0 ad sh g_3 s H locs := by rw [hg_3]; exact hW
  exact zr_vret X hW dX8_closeRequest_25 (Nat.le_refl _) (Nat.le_refl _) ⟨rfl, rfl, rfl, by rw [hg_3, hg_2, hg_1]⟩

set_option maxHeartbeats 4000000 in
set_option maxRecDepth 100000 in
theorem c_X8_makeSerial_3 (l : Launch) (Y : zw_Y) (N0 : Nat) (ad : Nat → Nat) (sh : Nat → Option zw_Sh) (g u : zm_T) (hS : zc_S sh) (hN : zc_N g u) : zw_Met l Y N0 yX8_makeSerial cX8_makeSerial 1 (some .int) 0 0 0 0 ad sh g [.ref (ad 118)] (zp_G ad sh (fun v g' => ∃ r : Int32, v = some (.int r) ∧ r = u 25 5 + 1 ∧ g' = zm_w g 118 3 (u 25 5 + 1))) := by
  refine zw_meth (by decide) (Nat.le_of_ble_eq_true rfl) ?_
  intro p e s m below meth c ls X hnm hl hW
  have hl : lv_has ls 1 [(0, .ref (ad 118))] := hl
  have hN0 := hN
  refine lv_aload_n X.1 X.2.1 dX8_makeSerial_0 rfl (lv_at hl 0 rfl) ?_
  refine lv_dup X.1 X.2.1 dX8_makeSerial_1 rfl ?_
  refine zr_get (r := 118) (v := .int (u 25 5)) X hW fs_X8_21_7 dX8_makeSerial_2 (zc_s118 hS) rfl rfl (congrArg Value.int (hN0 _ _ _ _ rfl)) ?_
  refine lv_iconst (v := 1) X.1 X.2.1 dX8_makeSerial_5 (by decide) ?_
  refine lv_iadd X.1 X.2.1 dX8_makeSerial_6 ?_
  refine zr_puti (r := 118) X hW fs_X8_21_7 dX8_makeSerial_7 (zc_s118 hS) rfl rfl rfl rfl (fun H locs hW => ?_)
  obtain ⟨g_1, hg_1⟩ : ∃ z : zm_T, z = zm_w g 118 3 ((u 25 5) + 1) := ⟨_, rfl⟩
  have hW : zw_St Y N0 ad sh g_1 s H locs := by rw [hg_1]; exact hW
  refine lv_aload_n X.1 X.2.1 dX8_makeSerial_10 rfl (lv_at hl 0 rfl) ?_
  refine zr_get (r := 118) (v := .int ((u 25 5) + 1)) X hW fs_X8_21_7 dX8_makeSerial_11 (zc_s118 hS) rfl rfl (congrArg Value.int (show g_1 118 3 = (u 25 5) + 1 from (by rw [hg_1]; exact zm_ws _ _ _ _))) ?_
  exact zr_iret X hW dX8_makeSerial_14 (Nat.le_refl _) (Nat.le_refl _) ⟨rfl, rfl, _, rfl, rfl, by rw [hg_1]⟩

set_option maxHeartbeats 4000000 in
set_option maxRecDepth 100000 in
theorem c_X3_init (l : Launch) (Y : zw_Y) (N0 : Nat) (ad : Nat → Nat) (sh : Nat → Option zw_Sh) (g : zm_T) (r : Nat) (hr : sh r = some (.inl (3, [none, none, none]))) (o f x : Int32) : zw_Met l Y N0 yX3_init cX3_init 4 none 1 20 0 0 ad sh g [.ref (ad r), .int o, .int f, .int x] (zp_G ad sh (fun v g' => v = none ∧ g' = zm_w (zm_w (zm_w g r 0 o) r 1 f) r 2 x)) := by
  refine zw_meth (by decide) (Nat.le_of_ble_eq_true rfl) ?_
  intro p e s m below meth c ls X hnm hl hW
  have hl : lv_has ls 4 [(0, .ref (ad r)), (1, .int o), (2, .int f), (3, .int x)] := hl
  refine lv_aload_n X.1 X.2.1 dX3_init_0 rfl (lv_at hl 0 rfl) ?_
  refine zr_objI X hl.1 ms_X3_1 dX3_init_1 (Nat.le_of_ble_eq_true rfl) (Nat.le_of_ble_eq_true rfl) (Nat.le_of_ble_eq_true rfl) ?_
  refine lv_aload_n X.1 X.2.1 dX3_init_4 rfl (lv_at hl 0 rfl) ?_
  refine lv_iload_n X.1 X.2.1 dX3_init_5 rfl (lv_at hl 1 rfl) ?_
  refine zr_putF (r := r) X hW fs_X3_7_3 dX3_init_6 hnm hr rfl rfl rfl rfl (fun H locs hW => ?_)
  obtain ⟨g_1, hg_1⟩ : ∃ z : zm_T, z = zm_w g r 0 o := ⟨_, rfl⟩
  have hW : zw_St Y N0 ad sh g_1 s H locs := by rw [hg_1]; exact hW
  refine lv_aload_n X.1 X.2.1 dX3_init_9 rfl (lv_at hl 0 rfl) ?_
  refine lv_iload_n X.1 X.2.1 dX3_init_10 rfl (lv_at hl 2 rfl) ?_
  refine zr_putF (r := r) X hW fs_X3_13_3 dX3_init_11 hnm hr rfl rfl rfl rfl (fun H locs hW => ?_)
  obtain ⟨g_2, hg_2⟩ : ∃ z : zm_T, z = zm_w g_1 r 1 f := ⟨_, rfl⟩
  have hW : zw_St Y N0 ad sh g_2 s H locs := by rw [hg_2]; exact hW
  refine lv_aload_n X.1 X.2.1 dX3_init_14 rfl (lv_at hl 0 rfl) ?_
  refine lv_iload_n X.1 X.2.1 dX3_init_15 rfl (lv_at hl 3 rfl) ?_
  refine zr_putF (r := r) X hW fs_X3_16_3 dX3_init_16 hnm hr rfl rfl rfl rfl (fun H locs hW => ?_)
  obtain ⟨g_3, hg_3⟩ : ∃ z : zm_T, z = zm_w g_2 r 2 x := ⟨_, rfl⟩
  have hW : zw_St Y N0 ad sh g_3 s H locs := by rw [hg_3]; exact hW
  exact zr_vret X hW dX3_init_19 (Nat.le_refl _) (Nat.le_refl _) ⟨rfl, rfl, rfl, by rw [hg_3, hg_2, hg_1]⟩

set_option maxHeartbeats 4000000 in
set_option maxRecDepth 100000 in
theorem c_X6_init_1 (l : Launch) (Y : zw_Y) (N0 : Nat) (ad : Nat → Nat) (sh : Nat → Option zw_Sh) (g : zm_T) (r : Nat) (hr : sh r = some (.inl (1, [none, none, none, none, some none]))) (key : Int32) : zw_Met l Y N0 yX6_init cX6_init 2 none 1 20 0 0 ad sh g [.ref (ad r), .int key] (zp_G ad sh (fun v g' => v = none ∧ g' = zm_w g r 0 key)) := by
  refine zw_meth (by decide) (Nat.le_of_ble_eq_true rfl) ?_
  intro p e s m below meth c ls X hnm hl hW
  have hl : lv_has ls 2 [(0, .ref (ad r)), (1, .int key)] := hl
  refine lv_aload_n X.1 X.2.1 dX6_init_0 rfl (lv_at hl 0 rfl) ?_
  refine zr_objI X hl.1 ms_X6_3 dX6_init_1 (Nat.le_of_ble_eq_true rfl) (Nat.le_of_ble_eq_true rfl) (Nat.le_of_ble_eq_true rfl) ?_
  refine lv_aload_n X.1 X.2.1 dX6_init_4 rfl (lv_at hl 0 rfl) ?_
  refine lv_iload_n X.1 X.2.1 dX6_init_5 rfl (lv_at hl 1 rfl) ?_
  refine zr_putF (r := r) X hW fs_X6_9_1 dX6_init_6 hnm hr rfl rfl rfl rfl (fun H locs hW => ?_)
  obtain ⟨g_1, hg_1⟩ : ∃ z : zm_T, z = zm_w g r 0 key := ⟨_, rfl⟩
  have hW : zw_St Y N0 ad sh g_1 s H locs := by rw [hg_1]; exact hW
  exact zr_vret X hW dX6_init_9 (Nat.le_refl _) (Nat.le_refl _) ⟨rfl, rfl, rfl, by rw [hg_1]⟩

set_option maxHeartbeats 4000000 in
set_option maxRecDepth 100000 in
theorem c_X6_init_4 (l : Launch) (Y : zw_Y) (N0 : Nat) (ad : Nat → Nat) (sh : Nat → Option zw_Sh) (g : zm_T) (r : Nat) (hr : sh r = some (.inl (4, [none, none, none, none, none]))) (key : Int32) : zw_Met l Y N0 yX6_init cX6_init 2 none 1 20 0 0 ad sh g [.ref (ad r), .int key] (zp_G ad sh (fun v g' => v = none ∧ g' = zm_w g r 0 key)) := by
  refine zw_meth (by decide) (Nat.le_of_ble_eq_true rfl) ?_
  intro p e s m below meth c ls X hnm hl hW
  have hl : lv_has ls 2 [(0, .ref (ad r)), (1, .int key)] := hl
  refine lv_aload_n X.1 X.2.1 dX6_init_0 rfl (lv_at hl 0 rfl) ?_
  refine zr_objI X hl.1 ms_X6_3 dX6_init_1 (Nat.le_of_ble_eq_true rfl) (Nat.le_of_ble_eq_true rfl) (Nat.le_of_ble_eq_true rfl) ?_
  refine lv_aload_n X.1 X.2.1 dX6_init_4 rfl (lv_at hl 0 rfl) ?_
  refine lv_iload_n X.1 X.2.1 dX6_init_5 rfl (lv_at hl 1 rfl) ?_
  refine zr_putF (r := r) X hW fs_X6_9_4 dX6_init_6 hnm hr rfl rfl rfl rfl (fun H locs hW => ?_)
  obtain ⟨g_1, hg_1⟩ : ∃ z : zm_T, z = zm_w g r 0 key := ⟨_, rfl⟩
  have hW : zw_St Y N0 ad sh g_1 s H locs := by rw [hg_1]; exact hW
  exact zr_vret X hW dX6_init_9 (Nat.le_refl _) (Nat.le_refl _) ⟨rfl, rfl, rfl, by rw [hg_1]⟩

set_option maxHeartbeats 4000000 in
set_option maxRecDepth 100000 in
theorem c_X6_init_5 (l : Launch) (Y : zw_Y) (N0 : Nat) (ad : Nat → Nat) (sh : Nat → Option zw_Sh) (g : zm_T) (r : Nat) (hr : sh r = some (.inl (5, [none, none, none]))) (key : Int32) : zw_Met l Y N0 yX6_init cX6_init 2 none 1 20 0 0 ad sh g [.ref (ad r), .int key] (zp_G ad sh (fun v g' => v = none ∧ g' = zm_w g r 0 key)) := by
  refine zw_meth (by decide) (Nat.le_of_ble_eq_true rfl) ?_
  intro p e s m below meth c ls X hnm hl hW
  have hl : lv_has ls 2 [(0, .ref (ad r)), (1, .int key)] := hl
  refine lv_aload_n X.1 X.2.1 dX6_init_0 rfl (lv_at hl 0 rfl) ?_
  refine zr_objI X hl.1 ms_X6_3 dX6_init_1 (Nat.le_of_ble_eq_true rfl) (Nat.le_of_ble_eq_true rfl) (Nat.le_of_ble_eq_true rfl) ?_
  refine lv_aload_n X.1 X.2.1 dX6_init_4 rfl (lv_at hl 0 rfl) ?_
  refine lv_iload_n X.1 X.2.1 dX6_init_5 rfl (lv_at hl 1 rfl) ?_
  refine zr_putF (r := r) X hW fs_X6_9_5 dX6_init_6 hnm hr rfl rfl rfl rfl (fun H locs hW => ?_)
  obtain ⟨g_1, hg_1⟩ : ∃ z : zm_T, z = zm_w g r 0 key := ⟨_, rfl⟩
  have hW : zw_St Y N0 ad sh g_1 s H locs := by rw [hg_1]; exact hW
  exact zr_vret X hW dX6_init_9 (Nat.le_refl _) (Nat.le_refl _) ⟨rfl, rfl, rfl, by rw [hg_1]⟩

set_option maxHeartbeats 4000000 in
set_option maxRecDepth 100000 in
theorem c_X6_init_6 (l : Launch) (Y : zw_Y) (N0 : Nat) (ad : Nat → Nat) (sh : Nat → Option zw_Sh) (g : zm_T) (r : Nat) (hr : sh r = some (.inl (6, [none, none, none, none, none, none]))) (key : Int32) : zw_Met l Y N0 yX6_init cX6_init 2 none 1 20 0 0 ad sh g [.ref (ad r), .int key] (zp_G ad sh (fun v g' => v = none ∧ g' = zm_w g r 0 key)) := by
  refine zw_meth (by decide) (Nat.le_of_ble_eq_true rfl) ?_
  intro p e s m below meth c ls X hnm hl hW
  have hl : lv_has ls 2 [(0, .ref (ad r)), (1, .int key)] := hl
  refine lv_aload_n X.1 X.2.1 dX6_init_0 rfl (lv_at hl 0 rfl) ?_
  refine zr_objI X hl.1 ms_X6_3 dX6_init_1 (Nat.le_of_ble_eq_true rfl) (Nat.le_of_ble_eq_true rfl) (Nat.le_of_ble_eq_true rfl) ?_
  refine lv_aload_n X.1 X.2.1 dX6_init_4 rfl (lv_at hl 0 rfl) ?_
  refine lv_iload_n X.1 X.2.1 dX6_init_5 rfl (lv_at hl 1 rfl) ?_
  refine zr_putF (r := r) X hW fs_X6_9_6 dX6_init_6 hnm hr rfl rfl rfl rfl (fun H locs hW => ?_)
  obtain ⟨g_1, hg_1⟩ : ∃ z : zm_T, z = zm_w g r 0 key := ⟨_, rfl⟩
  have hW : zw_St Y N0 ad sh g_1 s H locs := by rw [hg_1]; exact hW
  exact zr_vret X hW dX6_init_9 (Nat.le_refl _) (Nat.le_refl _) ⟨rfl, rfl, rfl, by rw [hg_1]⟩

set_option maxHeartbeats 4000000 in
set_option maxRecDepth 100000 in
theorem c_X5_init (l : Launch) (Y : zw_Y) (N0 : Nat) (ad : Nat → Nat) (sh : Nat → Option zw_Sh) (g : zm_T) (r : Nat) (hr : sh r = some (.inl (5, [none, none, none]))) (key cn tm : Int32) : zw_Met l Y N0 yX5_init cX5_init 4 none 2 41 0 0 ad sh g [.ref (ad r), .int key, .int cn, .int tm] (zp_G ad sh (fun v g' => v = none ∧ g' = zm_w (zm_w (zm_w g r 0 key) r 1 cn) r 2 tm)) := by
  refine zw_meth (by decide) (Nat.le_of_ble_eq_true rfl) ?_
  intro p e s m below meth c ls X hnm hl hW
  have hl : lv_has ls 4 [(0, .ref (ad r)), (1, .int key), (2, .int cn), (3, .int tm)] := hl
  refine lv_aload_n X.1 X.2.1 dX5_init_0 rfl (lv_at hl 0 rfl) ?_
  refine lv_iload_n X.1 X.2.1 dX5_init_1 rfl (lv_at hl 1 rfl) ?_
  refine zr_callI (As := [.int key]) (rest := []) (b := ad r) X hW hl.1 md_X6_init ms_X5_3 rfl dX5_init_2 rfl rfl (Nat.le_of_ble_eq_true rfl) ⟨Nat.le_of_ble_eq_true rfl, Nat.le_of_ble_eq_true rfl⟩ ⟨Nat.le_of_ble_eq_true rfl, Nat.le_of_ble_eq_true rfl⟩ (c_X6_init_5 l Y N0 ad sh g r hr key) (fun v9 ad9 sh9 g9 H locs hp hW => ?_)
  obtain ⟨rfl, rfl, rfl, rfl⟩ := hp
  obtain ⟨g_2, hg_2⟩ : ∃ z : zm_T, z = zm_w g r 0 key := ⟨_, rfl⟩
  rw [← hg_2] at hW
  refine lv_aload_n X.1 X.2.1 dX5_init_5 rfl (lv_at hl 0 rfl) ?_
  refine lv_iload_n X.1 X.2.1 dX5_init_6 rfl (lv_at hl 2 rfl) ?_
  refine zr_putF (r := r) X hW fs_X5_9_5 dX5_init_7 hnm hr rfl rfl rfl rfl (fun H locs hW => ?_)
  obtain ⟨g_3, hg_3⟩ : ∃ z : zm_T, z = zm_w g_2 r 1 cn := ⟨_, rfl⟩
  have hW : zw_St Y N0 ad sh g_3 s H locs := by rw [hg_3]; exact hW
  refine lv_aload_n X.1 X.2.1 dX5_init_10 rfl (lv_at hl 0 rfl) ?_
  refine lv_iload_n X.1 X.2.1 dX5_init_11 rfl (lv_at hl 3 rfl) ?_
  refine zr_putF (r := r) X hW fs_X5_15_5 dX5_init_12 hnm hr rfl rfl rfl rfl (fun H locs hW => ?_)
  obtain ⟨g_4, hg_4⟩ : ∃ z : zm_T, z = zm_w g_3 r 2 tm := ⟨_, rfl⟩
  have hW : zw_St Y N0 ad sh g_4 s H locs := by rw [hg_4]; exact hW
  exact zr_vret X hW dX5_init_15 (Nat.le_refl _) (Nat.le_refl _) ⟨rfl, rfl, rfl, by rw [hg_4, hg_3, hg_2]⟩

set_option maxHeartbeats 4000000 in
set_option maxRecDepth 100000 in
theorem c_X7_init (l : Launch) (Y : zw_Y) (N0 : Nat) (ad : Nat → Nat) (sh : Nat → Option zw_Sh) (g : zm_T) (r : Nat) (hr : sh r = some (.inl (6, [none, none, none, none, none, none]))) (key cn sk t1 t2 t3 : Int32) : zw_Met l Y N0 yX7_init cX7_init 7 none 2 41 0 0 ad sh g [.ref (ad r), .int key, .int cn, .int sk, .int t1, .int t2, .int t3] (zp_G ad sh (fun v g' => v = none ∧ g' = zm_w (zm_w (zm_w (zm_w (zm_w (zm_w g r 0 key) r 1 cn) r 2 sk) r 3 t1) r 4 t2) r 5 t3)) := by
  refine zw_meth (by decide) (Nat.le_of_ble_eq_true rfl) ?_
  intro p e s m below meth c ls X hnm hl hW
  have hl : lv_has ls 7 [(0, .ref (ad r)), (1, .int key), (2, .int cn), (3, .int sk), (4, .int t1), (5, .int t2), (6, .int t3)] := hl
  refine lv_aload_n X.1 X.2.1 dX7_init_0 rfl (lv_at hl 0 rfl) ?_
  refine lv_iload_n X.1 X.2.1 dX7_init_1 rfl (lv_at hl 1 rfl) ?_
  refine zr_callI (As := [.int key]) (rest := []) (b := ad r) X hW hl.1 md_X6_init ms_X7_3 rfl dX7_init_2 rfl rfl (Nat.le_of_ble_eq_true rfl) ⟨Nat.le_of_ble_eq_true rfl, Nat.le_of_ble_eq_true rfl⟩ ⟨Nat.le_of_ble_eq_true rfl, Nat.le_of_ble_eq_true rfl⟩ (c_X6_init_6 l Y N0 ad sh g r hr key) (fun v9 ad9 sh9 g9 H locs hp hW => ?_)
  obtain ⟨rfl, rfl, rfl, rfl⟩ := hp
  obtain ⟨g_2, hg_2⟩ : ∃ z : zm_T, z = zm_w g r 0 key := ⟨_, rfl⟩
  rw [← hg_2] at hW
  refine lv_aload_n X.1 X.2.1 dX7_init_5 rfl (lv_at hl 0 rfl) ?_
  refine lv_iload_n X.1 X.2.1 dX7_init_6 rfl (lv_at hl 2 rfl) ?_
  refine zr_putF (r := r) X hW fs_X7_9_6 dX7_init_7 hnm hr rfl rfl rfl rfl (fun H locs hW => ?_)
  obtain ⟨g_3, hg_3⟩ : ∃ z : zm_T, z = zm_w g_2 r 1 cn := ⟨_, rfl⟩
  have hW : zw_St Y N0 ad sh g_3 s H locs := by rw [hg_3]; exact hW
  refine lv_aload_n X.1 X.2.1 dX7_init_10 rfl (lv_at hl 0 rfl) ?_
  refine lv_iload_n X.1 X.2.1 dX7_init_11 rfl (lv_at hl 3 rfl) ?_
  refine zr_putF (r := r) X hW fs_X7_15_6 dX7_init_12 hnm hr rfl rfl rfl rfl (fun H locs hW => ?_)
  obtain ⟨g_4, hg_4⟩ : ∃ z : zm_T, z = zm_w g_3 r 2 sk := ⟨_, rfl⟩
  have hW : zw_St Y N0 ad sh g_4 s H locs := by rw [hg_4]; exact hW
  refine lv_aload_n X.1 X.2.1 dX7_init_15 rfl (lv_at hl 0 rfl) ?_
  refine lv_iload X.1 X.2.1 dX7_init_16 (lv_at hl 4 rfl) ?_
  refine zr_putF (r := r) X hW fs_X7_18_6 dX7_init_18 hnm hr rfl rfl rfl rfl (fun H locs hW => ?_)
  obtain ⟨g_5, hg_5⟩ : ∃ z : zm_T, z = zm_w g_4 r 3 t1 := ⟨_, rfl⟩
  have hW : zw_St Y N0 ad sh g_5 s H locs := by rw [hg_5]; exact hW
  refine lv_aload_n X.1 X.2.1 dX7_init_21 rfl (lv_at hl 0 rfl) ?_
  refine lv_iload X.1 X.2.1 dX7_init_22 (lv_at hl 5 rfl) ?_
  refine zr_putF (r := r) X hW fs_X7_21_6 dX7_init_24 hnm hr rfl rfl rfl rfl (fun H locs hW => ?_)
  obtain ⟨g_6, hg_6⟩ : ∃ z : zm_T, z = zm_w g_5 r 4 t2 := ⟨_, rfl⟩
  have hW : zw_St Y N0 ad sh g_6 s H locs := by rw [hg_6]; exact hW
  refine lv_aload_n X.1 X.2.1 dX7_init_27 rfl (lv_at hl 0 rfl) ?_
  refine lv_iload X.1 X.2.1 dX7_init_28 (lv_at hl 6 rfl) ?_
  refine zr_putF (r := r) X hW fs_X7_24_6 dX7_init_30 hnm hr rfl rfl rfl rfl (fun H locs hW => ?_)
  obtain ⟨g_7, hg_7⟩ : ∃ z : zm_T, z = zm_w g_6 r 5 t3 := ⟨_, rfl⟩
  have hW : zw_St Y N0 ad sh g_7 s H locs := by rw [hg_7]; exact hW
  exact zr_vret X hW dX7_init_33 (Nat.le_refl _) (Nat.le_refl _) ⟨rfl, rfl, rfl, by rw [hg_7, hg_6, hg_5, hg_4, hg_3, hg_2]⟩

set_option maxHeartbeats 4000000 in
set_option maxRecDepth 100000 in
theorem c_X4_init (l : Launch) (Y : zw_Y) (N0 : Nat) (ad : Nat → Nat) (sh : Nat → Option zw_Sh) (g : zm_T) (r : Nat) (hr : sh r = some (.inl (4, [none, none, none, none, none]))) (key sk nc t t3 : Int32) : zw_Met l Y N0 yX4_init cX4_init 6 none 2 41 0 0 ad sh g [.ref (ad r), .int key, .int sk, .int nc, .int t, .int t3] (zp_G ad sh (fun v g' => v = none ∧ g' = zm_w (zm_w (zm_w (zm_w (zm_w g r 0 key) r 1 sk) r 2 nc) r 3 t) r 4 t3)) := by
  refine zw_meth (by decide) (Nat.le_of_ble_eq_true rfl) ?_
  intro p e s m below meth c ls X hnm hl hW
  have hl : lv_has ls 6 [(0, .ref (ad r)), (1, .int key), (2, .int sk), (3, .int nc), (4, .int t), (5, .int t3)] := hl
  refine lv_aload_n X.1 X.2.1 dX4_init_0 rfl (lv_at hl 0 rfl) ?_
  refine lv_iload_n X.1 X.2.1 dX4_init_1 rfl (lv_at hl 1 rfl) ?_
  refine zr_callI (As := [.int key]) (rest := []) (b := ad r) X hW hl.1 md_X6_init ms_X4_3 rfl dX4_init_2 rfl rfl (Nat.le_of_ble_eq_true rfl) ⟨Nat.le_of_ble_eq_true rfl, Nat.le_of_ble_eq_true rfl⟩ ⟨Nat.le_of_ble_eq_true rfl, Nat.le_of_ble_eq_true rfl⟩ (c_X6_init_4 l Y N0 ad sh g r hr key) (fun v9 ad9 sh9 g9 H locs hp hW => ?_)
  obtain ⟨rfl, rfl, rfl, rfl⟩ := hp
  obtain ⟨g_2, hg_2⟩ : ∃ z : zm_T, z = zm_w g r 0 key := ⟨_, rfl⟩
  rw [← hg_2] at hW
  refine lv_aload_n X.1 X.2.1 dX4_init_5 rfl (lv_at hl 0 rfl) ?_
  refine lv_iload_n X.1 X.2.1 dX4_init_6 rfl (lv_at hl 2 rfl) ?_
  refine zr_putF (r := r) X hW fs_X4_9_4 dX4_init_7 hnm hr rfl rfl rfl rfl (fun H locs hW => ?_)
  obtain ⟨g_3, hg_3⟩ : ∃ z : zm_T, z = zm_w g_2 r 1 sk := ⟨_, rfl⟩
  have hW : zw_St Y N0 ad sh g_3 s H locs := by rw [hg_3]; exact hW
  refine lv_aload_n X.1 X.2.1 dX4_init_10 rfl (lv_at hl 0 rfl) ?_
  refine lv_iload_n X.1 X.2.1 dX4_init_11 rfl (lv_at hl 3 rfl) ?_
  refine zr_putF (r := r) X hW fs_X4_15_4 dX4_init_12 hnm hr rfl rfl rfl rfl (fun H locs hW => ?_)
  obtain ⟨g_4, hg_4⟩ : ∃ z : zm_T, z = zm_w g_3 r 2 nc := ⟨_, rfl⟩
  have hW : zw_St Y N0 ad sh g_4 s H locs := by rw [hg_4]; exact hW
  refine lv_aload_n X.1 X.2.1 dX4_init_15 rfl (lv_at hl 0 rfl) ?_
  refine lv_iload X.1 X.2.1 dX4_init_16 (lv_at hl 4 rfl) ?_
  refine zr_putF (r := r) X hW fs_X4_18_4 dX4_init_18 hnm hr rfl rfl rfl rfl (fun H locs hW => ?_)
  obtain ⟨g_5, hg_5⟩ : ∃ z : zm_T, z = zm_w g_4 r 3 t := ⟨_, rfl⟩
  have hW : zw_St Y N0 ad sh g_5 s H locs := by rw [hg_5]; exact hW
  refine lv_aload_n X.1 X.2.1 dX4_init_21 rfl (lv_at hl 0 rfl) ?_
  refine lv_iload X.1 X.2.1 dX4_init_22 (lv_at hl 5 rfl) ?_
  refine zr_putF (r := r) X hW fs_X4_21_4 dX4_init_24 hnm hr rfl rfl rfl rfl (fun H locs hW => ?_)
  obtain ⟨g_6, hg_6⟩ : ∃ z : zm_T, z = zm_w g_5 r 4 t3 := ⟨_, rfl⟩
  have hW : zw_St Y N0 ad sh g_6 s H locs := by rw [hg_6]; exact hW
  exact zr_vret X hW dX4_init_27 (Nat.le_refl _) (Nat.le_refl _) ⟨rfl, rfl, rfl, by rw [hg_6, hg_5, hg_4, hg_3, hg_2]⟩

set_option maxHeartbeats 4000000 in
set_option maxRecDepth 100000 in
theorem c_X1_init (l : Launch) (Y : zw_Y) (N0 : Nat) (ad : Nat → Nat) (sh : Nat → Option zw_Sh) (g : zm_T) (r ro : Nat) (hr : sh r = some (.inl (1, [none, none, none, none, some none]))) (hro : sh ro ≠ none) (key cn tm se : Int32) : zw_Met l Y N0 yX1_init cX1_init 6 none 2 41 0 0 ad sh g [.ref (ad r), .int key, .int cn, .int tm, .int se, .ref (ad ro)] (fun v ad' sh' g' => v = none ∧ ad = ad' ∧ sh' = va_up sh r (some (.inl (1, [none, none, none, none, some (some ro)]))) ∧ g' = zm_w (zm_w (zm_w (zm_w g r 0 key) r 1 cn) r 2 tm) r 3 se) := by
  refine zw_meth (by decide) (Nat.le_of_ble_eq_true rfl) ?_
  intro p e s m below meth c ls X hnm hl hW
  have hl : lv_has ls 6 [(0, .ref (ad r)), (1, .int key), (2, .int cn), (3, .int tm), (4, .int se), (5, .ref (ad ro))] := hl
  refine lv_aload_n X.1 X.2.1 dX1_init_0 rfl (lv_at hl 0 rfl) ?_
  refine lv_iload_n X.1 X.2.1 dX1_init_1 rfl (lv_at hl 1 rfl) ?_
  refine zr_callI (As := [.int key]) (rest := []) (b := ad r) X hW hl.1 md_X6_init ms_X1_3 rfl dX1_init_2 rfl rfl (Nat.le_of_ble_eq_true rfl) ⟨Nat.le_of_ble_eq_true rfl, Nat.le_of_ble_eq_true rfl⟩ ⟨Nat.le_of_ble_eq_true rfl, Nat.le_of_ble_eq_true rfl⟩ (c_X6_init_1 l Y N0 ad sh g r hr key) (fun v9 ad9 sh9 g9 H locs hp hW => ?_)
  obtain ⟨rfl, rfl, rfl, rfl⟩ := hp
  obtain ⟨g_2, hg_2⟩ : ∃ z : zm_T, z = zm_w g r 0 key := ⟨_, rfl⟩
  rw [← hg_2] at hW
  refine lv_aload_n X.1 X.2.1 dX1_init_5 rfl (lv_at hl 0 rfl) ?_
  refine lv_iload_n X.1 X.2.1 dX1_init_6 rfl (lv_at hl 2 rfl) ?_
  refine zr_putF (r := r) X hW fs_X1_9_1 dX1_init_7 hnm hr rfl rfl rfl rfl (fun H locs hW => ?_)
  obtain ⟨g_3, hg_3⟩ : ∃ z : zm_T, z = zm_w g_2 r 1 cn := ⟨_, rfl⟩
  have hW : zw_St Y N0 ad sh g_3 s H locs := by rw [hg_3]; exact hW
  refine lv_aload_n X.1 X.2.1 dX1_init_10 rfl (lv_at hl 0 rfl) ?_
  refine lv_iload_n X.1 X.2.1 dX1_init_11 rfl (lv_at hl 3 rfl) ?_
  refine zr_putF (r := r) X hW fs_X1_15_1 dX1_init_12 hnm hr rfl rfl rfl rfl (fun H locs hW => ?_)
  obtain ⟨g_4, hg_4⟩ : ∃ z : zm_T, z = zm_w g_3 r 2 tm := ⟨_, rfl⟩
  have hW : zw_St Y N0 ad sh g_4 s H locs := by rw [hg_4]; exact hW
  refine lv_aload_n X.1 X.2.1 dX1_init_15 rfl (lv_at hl 0 rfl) ?_
  refine lv_iload X.1 X.2.1 dX1_init_16 (lv_at hl 4 rfl) ?_
  refine zr_putF (r := r) X hW fs_X1_18_1 dX1_init_18 hnm hr rfl rfl rfl rfl (fun H locs hW => ?_)
  obtain ⟨g_5, hg_5⟩ : ∃ z : zm_T, z = zm_w g_4 r 3 se := ⟨_, rfl⟩
  have hW : zw_St Y N0 ad sh g_5 s H locs := by rw [hg_5]; exact hW
  refine lv_aload_n X.1 X.2.1 dX1_init_21 rfl (lv_at hl 0 rfl) ?_
  refine lv_aload X.1 X.2.1 dX1_init_22 (lv_at hl 5 rfl) ?_
  refine zr_putr (r := r) (r2 := ro) X hW fs_X1_21_1 dX1_init_24 (Or.inr ⟨rfl, hnm⟩) hr rfl (by decide) hro rfl (fun a => ⟨rfl, rfl⟩) (fun H locs hW => ?_)
  obtain ⟨sh_6, hsh_6⟩ : ∃ z : Nat → Option zw_Sh, z = va_up sh r (some (.inl (1, [none, none, none, none, some (some ro)]))) := ⟨_, rfl⟩
  have hW : zw_St Y N0 ad sh_6 g_5 s H locs := by rw [hsh_6]; exact hW
  exact zr_vret X hW dX1_init_27 (Nat.le_refl _) (Nat.le_refl _) ⟨rfl, rfl, hsh_6, by rw [hg_5, hg_4, hg_3, hg_2]⟩

set_option maxHeartbeats 4000000 in
set_option maxRecDepth 100000 in
theorem c_X1_kind (l : Launch) (Y : zw_Y) (N0 : Nat) (ad : Nat → Nat) (sh : Nat → Option zw_Sh) (g : zm_T) (r : Nat) : zw_Met l Y N0 yX1_kind cX1_kind 1 (some .int) 0 0 0 0 ad sh g [.ref (ad r)] (zp_I ad sh g (fun v9 => v9 = 4)) := by
  refine zw_meth (by decide) (Nat.le_of_ble_eq_true rfl) ?_
  intro p e s m below meth c ls X hnm hl hW
  have hl : lv_has ls 1 [(0, .ref (ad r))] := hl
  refine lv_iconst (v := 4) X.1 X.2.1 dX1_kind_0 (by decide) ?_
  exact zr_iret X hW dX1_kind_1 (Nat.le_refl _) (Nat.le_refl _) ⟨rfl, rfl, rfl, _, rfl, rfl⟩

set_option maxHeartbeats 4000000 in
set_option maxRecDepth 100000 in
theorem c_X4_kind (l : Launch) (Y : zw_Y) (N0 : Nat) (ad : Nat → Nat) (sh : Nat → Option zw_Sh) (g : zm_T) (r : Nat) : zw_Met l Y N0 yX4_kind cX4_kind 1 (some .int) 0 0 0 0 ad sh g [.ref (ad r)] (zp_I ad sh g (fun v9 => v9 = 3)) := by
  refine zw_meth (by decide) (Nat.le_of_ble_eq_true rfl) ?_
  intro p e s m below meth c ls X hnm hl hW
  have hl : lv_has ls 1 [(0, .ref (ad r))] := hl
  refine lv_iconst (v := 3) X.1 X.2.1 dX4_kind_0 (by decide) ?_
  exact zr_iret X hW dX4_kind_1 (Nat.le_refl _) (Nat.le_refl _) ⟨rfl, rfl, rfl, _, rfl, rfl⟩

set_option maxHeartbeats 4000000 in
set_option maxRecDepth 100000 in
theorem c_X5_kind (l : Launch) (Y : zw_Y) (N0 : Nat) (ad : Nat → Nat) (sh : Nat → Option zw_Sh) (g : zm_T) (r : Nat) : zw_Met l Y N0 yX5_kind cX5_kind 1 (some .int) 0 0 0 0 ad sh g [.ref (ad r)] (zp_I ad sh g (fun v9 => v9 = 1)) := by
  refine zw_meth (by decide) (Nat.le_of_ble_eq_true rfl) ?_
  intro p e s m below meth c ls X hnm hl hW
  have hl : lv_has ls 1 [(0, .ref (ad r))] := hl
  refine lv_iconst (v := 1) X.1 X.2.1 dX5_kind_0 (by decide) ?_
  exact zr_iret X hW dX5_kind_1 (Nat.le_refl _) (Nat.le_refl _) ⟨rfl, rfl, rfl, _, rfl, rfl⟩

set_option maxHeartbeats 4000000 in
set_option maxRecDepth 100000 in
theorem c_X7_kind (l : Launch) (Y : zw_Y) (N0 : Nat) (ad : Nat → Nat) (sh : Nat → Option zw_Sh) (g : zm_T) (r : Nat) : zw_Met l Y N0 yX7_kind cX7_kind 1 (some .int) 0 0 0 0 ad sh g [.ref (ad r)] (zp_I ad sh g (fun v9 => v9 = 2)) := by
  refine zw_meth (by decide) (Nat.le_of_ble_eq_true rfl) ?_
  intro p e s m below meth c ls X hnm hl hW
  have hl : lv_has ls 1 [(0, .ref (ad r))] := hl
  refine lv_iconst (v := 2) X.1 X.2.1 dX7_kind_0 (by decide) ?_
  exact zr_iret X hW dX7_kind_1 (Nat.le_refl _) (Nat.le_refl _) ⟨rfl, rfl, rfl, _, rfl, rfl⟩

set_option maxHeartbeats 4000000 in
set_option maxRecDepth 100000 in
theorem c_X6_heldKey (l : Launch) (Y : zw_Y) (N0 : Nat) (ad : Nat → Nat) (sh : Nat → Option zw_Sh) (g : zm_T) (r : Nat) : zw_Met l Y N0 yX6_heldKey cX6_heldKey 1 (some .int) 0 0 0 0 ad sh g [.ref (ad r)] (zp_I ad sh g (fun v9 => v9 = -1)) := by
  refine zw_meth (by decide) (Nat.le_of_ble_eq_true rfl) ?_
  intro p e s m below meth c ls X hnm hl hW
  have hl : lv_has ls 1 [(0, .ref (ad r))] := hl
  refine lv_iconst (v := (-1)) X.1 X.2.1 dX6_heldKey_0 (by decide) ?_
  exact zr_iret X hW dX6_heldKey_1 (Nat.le_refl _) (Nat.le_refl _) ⟨rfl, rfl, rfl, _, rfl, rfl⟩

set_option maxHeartbeats 4000000 in
set_option maxRecDepth 100000 in
theorem c_X6_shownEnd (l : Launch) (Y : zw_Y) (N0 : Nat) (ad : Nat → Nat) (sh : Nat → Option zw_Sh) (g : zm_T) (r : Nat) : zw_Met l Y N0 yX6_shownEnd cX6_shownEnd 1 (some .int) 0 0 0 0 ad sh g [.ref (ad r)] (zp_I ad sh g (fun v9 => v9 = 0)) := by
  refine zw_meth (by decide) (Nat.le_of_ble_eq_true rfl) ?_
  intro p e s m below meth c ls X hnm hl hW
  have hl : lv_has ls 1 [(0, .ref (ad r))] := hl
  refine lv_iconst (v := 0) X.1 X.2.1 dX6_shownEnd_0 (by decide) ?_
  exact zr_iret X hW dX6_shownEnd_1 (Nat.le_refl _) (Nat.le_refl _) ⟨rfl, rfl, rfl, _, rfl, rfl⟩

set_option maxHeartbeats 4000000 in
set_option maxRecDepth 100000 in
theorem c_X6_shownTime (l : Launch) (Y : zw_Y) (N0 : Nat) (ad : Nat → Nat) (sh : Nat → Option zw_Sh) (g : zm_T) (r : Nat) : zw_Met l Y N0 yX6_shownTime cX6_shownTime 1 (some .int) 0 0 0 0 ad sh g [.ref (ad r)] (zp_I ad sh g (fun v9 => v9 = 0)) := by
  refine zw_meth (by decide) (Nat.le_of_ble_eq_true rfl) ?_
  intro p e s m below meth c ls X hnm hl hW
  have hl : lv_has ls 1 [(0, .ref (ad r))] := hl
  refine lv_iconst (v := 0) X.1 X.2.1 dX6_shownTime_0 (by decide) ?_
  exact zr_iret X hW dX6_shownTime_1 (Nat.le_refl _) (Nat.le_refl _) ⟨rfl, rfl, rfl, _, rfl, rfl⟩

set_option maxHeartbeats 4000000 in
set_option maxRecDepth 100000 in
theorem c_X4_heldKey (l : Launch) (Y : zw_Y) (N0 : Nat) (ad : Nat → Nat) (sh : Nat → Option zw_Sh) (g : zm_T) (r : Nat) (hr : sh r = some (.inl (4, [none, none, none, none, none]))) : zw_Met l Y N0 yX4_heldKey cX4_heldKey 1 (some .int) 0 0 0 0 ad sh g [.ref (ad r)] (zp_I ad sh g (fun v9 => v9 = g r 1)) := by
  refine zw_meth (by decide) (Nat.le_of_ble_eq_true rfl) ?_
  intro p e s m below meth c ls X hnm hl hW
  have hl : lv_has ls 1 [(0, .ref (ad r))] := hl
  refine lv_aload_n X.1 X.2.1 dX4_heldKey_0 rfl (lv_at hl 0 rfl) ?_
  refine zr_get (r := r) (v := .int (g r 1)) X hW fs_X4_9_4 dX4_heldKey_1 hr rfl rfl rfl ?_
  exact zr_iret X hW dX4_heldKey_4 (Nat.le_refl _) (Nat.le_refl _) ⟨rfl, rfl, rfl, _, rfl, rfl⟩

set_option maxHeartbeats 4000000 in
set_option maxRecDepth 100000 in
theorem c_X7_heldKey (l : Launch) (Y : zw_Y) (N0 : Nat) (ad : Nat → Nat) (sh : Nat → Option zw_Sh) (g : zm_T) (r : Nat) (hr : sh r = some (.inl (6, [none, none, none, none, none, none]))) : zw_Met l Y N0 yX7_heldKey cX7_heldKey 1 (some .int) 0 0 0 0 ad sh g [.ref (ad r)] (zp_I ad sh g (fun v9 => v9 = g r 2)) := by
  refine zw_meth (by decide) (Nat.le_of_ble_eq_true rfl) ?_
  intro p e s m below meth c ls X hnm hl hW
  have hl : lv_has ls 1 [(0, .ref (ad r))] := hl
  refine lv_aload_n X.1 X.2.1 dX7_heldKey_0 rfl (lv_at hl 0 rfl) ?_
  refine zr_get (r := r) (v := .int (g r 2)) X hW fs_X7_15_6 dX7_heldKey_1 hr rfl rfl rfl ?_
  exact zr_iret X hW dX7_heldKey_4 (Nat.le_refl _) (Nat.le_refl _) ⟨rfl, rfl, rfl, _, rfl, rfl⟩

set_option maxHeartbeats 4000000 in
set_option maxRecDepth 100000 in
theorem c_X4_shownEnd (l : Launch) (Y : zw_Y) (N0 : Nat) (ad : Nat → Nat) (sh : Nat → Option zw_Sh) (g : zm_T) (r : Nat) (hr : sh r = some (.inl (4, [none, none, none, none, none]))) : zw_Met l Y N0 yX4_shownEnd cX4_shownEnd 1 (some .int) 0 0 0 0 ad sh g [.ref (ad r)] (zp_I ad sh g (fun v9 => v9 = g r 4)) := by
  refine zw_meth (by decide) (Nat.le_of_ble_eq_true rfl) ?_
  intro p e s m below meth c ls X hnm hl hW
  have hl : lv_has ls 1 [(0, .ref (ad r))] := hl
  refine lv_aload_n X.1 X.2.1 dX4_shownEnd_0 rfl (lv_at hl 0 rfl) ?_
  refine zr_get (r := r) (v := .int (g r 4)) X hW fs_X4_21_4 dX4_shownEnd_1 hr rfl rfl rfl ?_
  exact zr_iret X hW dX4_shownEnd_4 (Nat.le_refl _) (Nat.le_refl _) ⟨rfl, rfl, rfl, _, rfl, rfl⟩

set_option maxHeartbeats 4000000 in
set_option maxRecDepth 100000 in
theorem c_X7_shownEnd (l : Launch) (Y : zw_Y) (N0 : Nat) (ad : Nat → Nat) (sh : Nat → Option zw_Sh) (g : zm_T) (r : Nat) (hr : sh r = some (.inl (6, [none, none, none, none, none, none]))) : zw_Met l Y N0 yX7_shownEnd cX7_shownEnd 1 (some .int) 0 0 0 0 ad sh g [.ref (ad r)] (zp_I ad sh g (fun v9 => v9 = g r 4)) := by
  refine zw_meth (by decide) (Nat.le_of_ble_eq_true rfl) ?_
  intro p e s m below meth c ls X hnm hl hW
  have hl : lv_has ls 1 [(0, .ref (ad r))] := hl
  refine lv_aload_n X.1 X.2.1 dX7_shownEnd_0 rfl (lv_at hl 0 rfl) ?_
  refine zr_get (r := r) (v := .int (g r 4)) X hW fs_X7_21_6 dX7_shownEnd_1 hr rfl rfl rfl ?_
  exact zr_iret X hW dX7_shownEnd_4 (Nat.le_refl _) (Nat.le_refl _) ⟨rfl, rfl, rfl, _, rfl, rfl⟩

set_option maxHeartbeats 4000000 in
set_option maxRecDepth 100000 in
theorem c_X5_shownTime (l : Launch) (Y : zw_Y) (N0 : Nat) (ad : Nat → Nat) (sh : Nat → Option zw_Sh) (g : zm_T) (r : Nat) (hr : sh r = some (.inl (5, [none, none, none]))) : zw_Met l Y N0 yX5_shownTime cX5_shownTime 1 (some .int) 0 0 0 0 ad sh g [.ref (ad r)] (zp_I ad sh g (fun v9 => v9 = g r 2)) := by
  refine zw_meth (by decide) (Nat.le_of_ble_eq_true rfl) ?_
  intro p e s m below meth c ls X hnm hl hW
  have hl : lv_has ls 1 [(0, .ref (ad r))] := hl
  refine lv_aload_n X.1 X.2.1 dX5_shownTime_0 rfl (lv_at hl 0 rfl) ?_
  refine zr_get (r := r) (v := .int (g r 2)) X hW fs_X5_15_5 dX5_shownTime_1 hr rfl rfl rfl ?_
  exact zr_iret X hW dX5_shownTime_4 (Nat.le_refl _) (Nat.le_refl _) ⟨rfl, rfl, rfl, _, rfl, rfl⟩

set_option maxHeartbeats 4000000 in
set_option maxRecDepth 100000 in
theorem c_X1_shownTime (l : Launch) (Y : zw_Y) (N0 : Nat) (ad : Nat → Nat) (sh : Nat → Option zw_Sh) (g : zm_T) (r : Nat) (ro : Nat) (hr : sh r = some (.inl (1, [none, none, none, none, some (some ro)]))) : zw_Met l Y N0 yX1_shownTime cX1_shownTime 1 (some .int) 0 0 0 0 ad sh g [.ref (ad r)] (zp_I ad sh g (fun v9 => v9 = g r 2)) := by
  refine zw_meth (by decide) (Nat.le_of_ble_eq_true rfl) ?_
  intro p e s m below meth c ls X hnm hl hW
  have hl : lv_has ls 1 [(0, .ref (ad r))] := hl
  refine lv_aload_n X.1 X.2.1 dX1_shownTime_0 rfl (lv_at hl 0 rfl) ?_
  refine zr_get (r := r) (v := .int (g r 2)) X hW fs_X1_15_1 dX1_shownTime_1 hr rfl rfl rfl ?_
  exact zr_iret X hW dX1_shownTime_4 (Nat.le_refl _) (Nat.le_refl _) ⟨rfl, rfl, rfl, _, rfl, rfl⟩
