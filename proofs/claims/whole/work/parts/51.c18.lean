theorem ds_X0 : ∀ (ad : Nat → Nat) (j : Nat), j < 3 → defaultValue (tyX0 j) = vp_V (zw_fs ad (fun _ => 0) 0 [some none, some none, some none]) j := by
  intro ad j hj
  match j, hj with
  | 0, _ => rfl
  | 1, _ => rfl
  | 2, _ => rfl
  | j + 3, h => exact absurd h (by omega)

theorem ds_X2 : ∀ (ad : Nat → Nat) (j : Nat), j < 4 → defaultValue (tyX2 j) = vp_V (zw_fs ad (fun _ => 0) 0 [some none, some none, none, none]) j := by
  intro ad j hj
  match j, hj with
  | 0, _ => rfl
  | 1, _ => rfl
  | 2, _ => rfl
  | 3, _ => rfl
  | j + 4, h => exact absurd h (by omega)

theorem ds_X8 : ∀ (ad : Nat → Nat) (j : Nat), j < 6 → defaultValue (tyX8 j) = vp_V (zw_fs ad (fun _ => 0) 0 [none, none, none, none, some none, some none]) j := by
  intro ad j hj
  match j, hj with
  | 0, _ => rfl
  | 1, _ => rfl
  | 2, _ => rfl
  | 3, _ => rfl
  | 4, _ => rfl
  | 5, _ => rfl
  | j + 6, h => exact absurd h (by omega)

theorem ds_X9 : ∀ (ad : Nat → Nat) (j : Nat), j < 12 → defaultValue (tyX9 j) = vp_V (zw_fs ad (fun _ => 0) 0 [none, some none, some none, some none, some none, some none, some none, some none, none, some none, none, none]) j := by
  intro ad j hj
  match j, hj with
  | 0, _ => rfl
  | 1, _ => rfl
  | 2, _ => rfl
  | 3, _ => rfl
  | 4, _ => rfl
  | 5, _ => rfl
  | 6, _ => rfl
  | 7, _ => rfl
  | 8, _ => rfl
  | 9, _ => rfl
  | 10, _ => rfl
  | 11, _ => rfl
  | j + 12, h => exact absurd h (by omega)

theorem ds_X10 : ∀ (ad : Nat → Nat) (j : Nat), j < 30 → defaultValue (tyX10 j) = vp_V (zw_fs ad (fun _ => 0) 0 [none, some none, none, some none, some none, some none, some none, some none, none, some none, some none, some none, some none, some none, some none, some none, some none, some none, some none, none, some none, some none, some none, some none, some none, some none, some none, none, none, some none]) j := by
  intro ad j hj
  match j, hj with
  | 0, _ => rfl
  | 1, _ => rfl
  | 2, _ => rfl
  | 3, _ => rfl
  | 4, _ => rfl
  | 5, _ => rfl
  | 6, _ => rfl
  | 7, _ => rfl
  | 8, _ => rfl
  | 9, _ => rfl
  | 10, _ => rfl
  | 11, _ => rfl
  | 12, _ => rfl
  | 13, _ => rfl
  | 14, _ => rfl
  | 15, _ => rfl
  | 16, _ => rfl
  | 17, _ => rfl
  | 18, _ => rfl
  | 19, _ => rfl
  | 20, _ => rfl
  | 21, _ => rfl
  | 22, _ => rfl
  | 23, _ => rfl
  | 24, _ => rfl
  | 25, _ => rfl
  | 26, _ => rfl
  | 27, _ => rfl
  | 28, _ => rfl
  | 29, _ => rfl
  | j + 30, h => exact absurd h (by omega)

set_option maxHeartbeats 4000000 in
set_option maxRecDepth 100000 in
theorem c_X8_init_0 (l : Launch) (Y : zw_Y) (N0 : Nat) (ad : Nat → Nat) (sh : Nat → Option zw_Sh) (g : zm_T) (hr : sh 115 = some (.inl (7, [none, none, none, none, some none, some none]))) (hf : ∀ r : Nat, r = 133 ∨ r = 134 → sh r = none) : zw_Met l Y N0 yX8_init cX8_init 2 none 1 20 2 4 ad sh g [.ref (ad 115)] (fun v ad' sh' g' => v = none ∧ (∀ r : Nat, (r ≠ 133 ∧ r ≠ 134) → ad' r = ad r) ∧ sh' = va_up (va_up (va_up (va_up (sh) 133 (some (.inr (0, 2, none)))) 115 (some (.inl (7, [none, none, none, none, some (some 133), some none])))) 134 (some (.inr (0, 2, none)))) 115 (some (.inl (7, [none, none, none, none, some (some 133), some (some 134)]))) ∧ g' = zm_w (zm_w (zm_w (zm_w (va_up (va_up (zm_w (zm_w (zm_w (zm_w (g) 115 0 0) 115 1 0) 115 2 ((-1))) 115 3 0) 133 (fun _ => 0)) 134 (fun _ => 0)) 133 0 ((-1))) 134 0 ((-1))) 133 1 ((-1))) 134 1 ((-1))) := by
  refine zw_meth (by decide) (Nat.le_of_ble_eq_true rfl) ?_
  intro p e s m below meth c ls X hnm hl hW
  have hl : lv_has ls 2 [(0, .ref (ad 115))] := hl
  refine lv_aload_n X.1 X.2.1 dX8_init_0 rfl (lv_at hl 0 rfl) ?_
  refine zr_objI X hl.1 ms_X8_3 dX8_init_1 (Nat.le_of_ble_eq_true rfl) (Nat.le_of_ble_eq_true rfl) (Nat.le_of_ble_eq_true rfl) ?_
  refine lv_aload_n X.1 X.2.1 dX8_init_4 rfl (lv_at hl 0 rfl) ?_
  refine lv_iconst (v := 0) X.1 X.2.1 dX8_init_5 (by decide) ?_
  refine zr_puti (r := 115) (ss := [none, none, none, none, some none, some none]) X hW fs_X8_9_7 dX8_init_6 hr rfl rfl rfl rfl (fun H locs hW => ?_)
  obtain ⟨g_1, hg_1⟩ : ∃ z : zm_T, z = zm_w g 115 0 0 := ⟨_, rfl⟩
  change zw_St Y N0 _ _ (zm_w g 115 0 0) s H locs at hW
  rw [← hg_1] at hW
  refine lv_aload_n X.1 X.2.1 dX8_init_9 rfl (lv_at hl 0 rfl) ?_
  refine lv_iconst (v := 0) X.1 X.2.1 dX8_init_10 (by decide) ?_
  refine zr_puti (r := 115) (ss := [none, none, none, none, some none, some none]) X hW fs_X8_15_7 dX8_init_11 hr rfl rfl rfl rfl (fun H locs hW => ?_)
  obtain ⟨g_2, hg_2⟩ : ∃ z : zm_T, z = zm_w g_1 115 1 0 := ⟨_, rfl⟩
  change zw_St Y N0 _ _ (zm_w g_1 115 1 0) s H locs at hW
  rw [← hg_2] at hW
  refine lv_aload_n X.1 X.2.1 dX8_init_14 rfl (lv_at hl 0 rfl) ?_
  refine lv_iconst (v := (-1)) X.1 X.2.1 dX8_init_15 (by decide) ?_
  refine zr_puti (r := 115) (ss := [none, none, none, none, some none, some none]) X hW fs_X8_18_7 dX8_init_16 hr rfl rfl rfl rfl (fun H locs hW => ?_)
  obtain ⟨g_3, hg_3⟩ : ∃ z : zm_T, z = zm_w g_2 115 2 ((-1)) := ⟨_, rfl⟩
  change zw_St Y N0 _ _ (zm_w g_2 115 2 ((-1))) s H locs at hW
  rw [← hg_3] at hW
  refine lv_aload_n X.1 X.2.1 dX8_init_19 rfl (lv_at hl 0 rfl) ?_
  refine lv_iconst (v := 0) X.1 X.2.1 dX8_init_20 (by decide) ?_
  refine zr_puti (r := 115) (ss := [none, none, none, none, some none, some none]) X hW fs_X8_21_7 dX8_init_21 hr rfl rfl rfl rfl (fun H locs hW => ?_)
  obtain ⟨g_4, hg_4⟩ : ∃ z : zm_T, z = zm_w g_3 115 3 0 := ⟨_, rfl⟩
  change zw_St Y N0 _ _ (zm_w g_3 115 3 0) s H locs at hW
  rw [← hg_4] at hW
  refine lv_aload_n X.1 X.2.1 dX8_init_24 rfl (lv_at hl 0 rfl) ?_
  refine lv_iconst (v := 2) X.1 X.2.1 dX8_init_25 (by decide) ?_
  refine zr_newa (ti := 0) (N' := 2) (ty := .int) X hW (zt_in (zt_t1 42 rfl) rfl) rfl rfl rfl dX8_init_26 133 (hf 133 (by omega)) (by decide) rfl (by decide) (Nat.le_of_ble_eq_true rfl) (Nat.le_of_ble_eq_true rfl) (fun ad_5 H had_5 hW => ?_)
  obtain ⟨g_6, hg_6⟩ : ∃ z : zm_T, z = va_up g_4 133 (fun _ => 0) := ⟨_, rfl⟩
  rw [← hg_6] at hW
  have ha_7 : ad_5 115 = ad 115 := had_5 115 (by omega)
  refine zr_putr (r := 115) (r2 := 133) (ss := [none, none, none, none, some none, some none]) X hW fs_X8_24_7 dX8_init_28 (Or.inr ⟨rfl, hnm⟩) hr ha_7 (by decide) (fun h9 => by cases h9) rfl (fun a => ⟨rfl, rfl⟩) (fun H locs hW => ?_)
  refine lv_aload_n X.1 X.2.1 dX8_init_31 rfl (lv_at hl 0 rfl) ?_
  refine lv_iconst (v := 2) X.1 X.2.1 dX8_init_32 (by decide) ?_
  refine zr_newa (ti := 0) (N' := 2) (ty := .int) X hW (zt_in (zt_t1 42 rfl) rfl) rfl rfl rfl dX8_init_33 134 (hf 134 (by omega)) (by decide) rfl (by decide) (Nat.le_of_ble_eq_true rfl) (Nat.le_of_ble_eq_true rfl) (fun ad_8 H had_8 hW => ?_)
  obtain ⟨g_9, hg_9⟩ : ∃ z : zm_T, z = va_up g_6 134 (fun _ => 0) := ⟨_, rfl⟩
  rw [← hg_9] at hW
  have ha_10 : ad_8 115 = ad 115 := (had_8 115 (by omega)).trans ha_7
  refine zr_putr (r := 115) (r2 := 134) (ss := [none, none, none, none, some (some 133), some none]) X hW fs_X8_28_7 dX8_init_35 (Or.inr ⟨rfl, hnm⟩) rfl ha_10 (by decide) (fun h9 => by cases h9) rfl (fun a => ⟨rfl, rfl⟩) (fun H locs hW => ?_)
  refine lv_iconst (v := 0) X.1 X.2.1 dX8_init_38 (by decide) ?_
  refine lv_istore_n (lv' := [(1, .int 0), (0, .ref (ad 115))]) X.1 X.2.1 dX8_init_39 rfl hl (by decide) rfl (fun ls hl => ?_)
  refine lv_iload_n X.1 X.2.1 dX8_init_40 rfl (lv_at hl 0 rfl) ?_
  refine lv_iconst (v := 2) X.1 X.2.1 dX8_init_41 (by decide) ?_
  refine zr_icmp_ge (a := 0) (b := 2) (tgt := 65) X dX8_init_42 (by decide) (by decide) (by decide) (fun c9 => absurd c9 (by decide)) (fun _ => ?_)
  refine lv_aload_n X.1 X.2.1 dX8_init_45 rfl (lv_at hl 1 rfl) ?_
  refine zr_get (r := 115) (ss := [none, none, none, none, some (some 133), some (some 134)]) (v := .ref (ad_8 133)) X hW fs_X8_24_7 dX8_init_46 rfl ha_10 rfl rfl ?_
  refine lv_iload_n X.1 X.2.1 dX8_init_49 rfl (lv_at hl 0 rfl) ?_
  refine lv_iconst (v := (-1)) X.1 X.2.1 dX8_init_50 (by decide) ?_
  refine zr_iast (r := 133) X hW dX8_init_51 rfl rfl rfl (zi_vp (by decide)) (fun H locs hW => ?_)
  obtain ⟨g_11, hg_11⟩ : ∃ z : zm_T, z = zm_w g_9 133 0 ((-1)) := ⟨_, rfl⟩
  change zw_St Y N0 _ _ (zm_w g_9 133 0 ((-1))) s H locs at hW
  rw [← hg_11] at hW
  refine lv_aload_n X.1 X.2.1 dX8_init_52 rfl (lv_at hl 1 rfl) ?_
  refine zr_get (r := 115) (ss := [none, none, none, none, some (some 133), some (some 134)]) (v := .ref (ad_8 134)) X hW fs_X8_28_7 dX8_init_53 rfl ha_10 rfl rfl ?_
  refine lv_iload_n X.1 X.2.1 dX8_init_56 rfl (lv_at hl 0 rfl) ?_
  refine lv_iconst (v := (-1)) X.1 X.2.1 dX8_init_57 (by decide) ?_
  refine zr_iast (r := 134) X hW dX8_init_58 rfl rfl rfl (zi_vp (by decide)) (fun H locs hW => ?_)
  obtain ⟨g_12, hg_12⟩ : ∃ z : zm_T, z = zm_w g_11 134 0 ((-1)) := ⟨_, rfl⟩
  change zw_St Y N0 _ _ (zm_w g_11 134 0 ((-1))) s H locs at hW
  rw [← hg_12] at hW
  refine lv_iinc (v := 1) (lv' := [(1, .int 1), (0, .ref (ad 115))]) X.1 X.2.1 dX8_init_59 hl (k := 0) rfl (by decide) (by decide) rfl (fun ls hl => ?_)
  refine lv_goto (tgt := 40) X.1 X.2.1 dX8_init_62 (by decide) ?_
  refine lv_iload_n X.1 X.2.1 dX8_init_40 rfl (lv_at hl 0 rfl) ?_
  refine lv_iconst (v := 2) X.1 X.2.1 dX8_init_41 (by decide) ?_
  refine zr_icmp_ge (a := 1) (b := 2) (tgt := 65) X dX8_init_42 (by decide) (by decide) (by decide) (fun c9 => absurd c9 (by decide)) (fun _ => ?_)
  refine lv_aload_n X.1 X.2.1 dX8_init_45 rfl (lv_at hl 1 rfl) ?_
  refine zr_get (r := 115) (ss := [none, none, none, none, some (some 133), some (some 134)]) (v := .ref (ad_8 133)) X hW fs_X8_24_7 dX8_init_46 rfl ha_10 rfl rfl ?_
  refine lv_iload_n X.1 X.2.1 dX8_init_49 rfl (lv_at hl 0 rfl) ?_
  refine lv_iconst (v := (-1)) X.1 X.2.1 dX8_init_50 (by decide) ?_
  refine zr_iast (r := 133) X hW dX8_init_51 rfl rfl rfl (zi_vp (by decide)) (fun H locs hW => ?_)
  obtain ⟨g_13, hg_13⟩ : ∃ z : zm_T, z = zm_w g_12 133 1 ((-1)) := ⟨_, rfl⟩
  change zw_St Y N0 _ _ (zm_w g_12 133 1 ((-1))) s H locs at hW
  rw [← hg_13] at hW
  refine lv_aload_n X.1 X.2.1 dX8_init_52 rfl (lv_at hl 1 rfl) ?_
  refine zr_get (r := 115) (ss := [none, none, none, none, some (some 133), some (some 134)]) (v := .ref (ad_8 134)) X hW fs_X8_28_7 dX8_init_53 rfl ha_10 rfl rfl ?_
  refine lv_iload_n X.1 X.2.1 dX8_init_56 rfl (lv_at hl 0 rfl) ?_
  refine lv_iconst (v := (-1)) X.1 X.2.1 dX8_init_57 (by decide) ?_
  refine zr_iast (r := 134) X hW dX8_init_58 rfl rfl rfl (zi_vp (by decide)) (fun H locs hW => ?_)
  obtain ⟨g_14, hg_14⟩ : ∃ z : zm_T, z = zm_w g_13 134 1 ((-1)) := ⟨_, rfl⟩
  change zw_St Y N0 _ _ (zm_w g_13 134 1 ((-1))) s H locs at hW
  rw [← hg_14] at hW
  refine lv_iinc (v := 2) (lv' := [(1, .int 2), (0, .ref (ad 115))]) X.1 X.2.1 dX8_init_59 hl (k := 0) rfl (by decide) (by decide) rfl (fun ls hl => ?_)
  refine lv_goto (tgt := 40) X.1 X.2.1 dX8_init_62 (by decide) ?_
  refine lv_iload_n X.1 X.2.1 dX8_init_40 rfl (lv_at hl 0 rfl) ?_
  refine lv_iconst (v := 2) X.1 X.2.1 dX8_init_41 (by decide) ?_
  refine zr_icmp_ge (a := 2) (b := 2) (tgt := 65) X dX8_init_42 (by decide) (by decide) (by decide) (fun _ => ?_) (fun c9 => absurd c9 (by decide))
  exact zr_vret X hW dX8_init_65 (Nat.le_of_ble_eq_true rfl) (Nat.le_of_ble_eq_true rfl) ⟨rfl, fun r h => ((had_8 r (by omega)).trans (had_5 r (by omega))), rfl, by rw [hg_14, hg_13, hg_12, hg_11, hg_9, hg_6, hg_4, hg_3, hg_2, hg_1]⟩

set_option maxHeartbeats 4000000 in
set_option maxRecDepth 100000 in
theorem c_X8_init_1 (l : Launch) (Y : zw_Y) (N0 : Nat) (ad : Nat → Nat) (sh : Nat → Option zw_Sh) (g : zm_T) (hr : sh 116 = some (.inl (7, [none, none, none, none, some none, some none]))) (hf : ∀ r : Nat, r = 135 ∨ r = 136 → sh r = none) : zw_Met l Y N0 yX8_init cX8_init 2 none 1 20 2 4 ad sh g [.ref (ad 116)] (fun v ad' sh' g' => v = none ∧ (∀ r : Nat, (r ≠ 135 ∧ r ≠ 136) → ad' r = ad r) ∧ sh' = va_up (va_up (va_up (va_up (sh) 135 (some (.inr (0, 2, none)))) 116 (some (.inl (7, [none, none, none, none, some (some 135), some none])))) 136 (some (.inr (0, 2, none)))) 116 (some (.inl (7, [none, none, none, none, some (some 135), some (some 136)]))) ∧ g' = zm_w (zm_w (zm_w (zm_w (va_up (va_up (zm_w (zm_w (zm_w (zm_w (g) 116 0 0) 116 1 0) 116 2 ((-1))) 116 3 0) 135 (fun _ => 0)) 136 (fun _ => 0)) 135 0 ((-1))) 136 0 ((-1))) 135 1 ((-1))) 136 1 ((-1))) := by
  refine zw_meth (by decide) (Nat.le_of_ble_eq_true rfl) ?_
  intro p e s m below meth c ls X hnm hl hW
  have hl : lv_has ls 2 [(0, .ref (ad 116))] := hl
  refine lv_aload_n X.1 X.2.1 dX8_init_0 rfl (lv_at hl 0 rfl) ?_
  refine zr_objI X hl.1 ms_X8_3 dX8_init_1 (Nat.le_of_ble_eq_true rfl) (Nat.le_of_ble_eq_true rfl) (Nat.le_of_ble_eq_true rfl) ?_
  refine lv_aload_n X.1 X.2.1 dX8_init_4 rfl (lv_at hl 0 rfl) ?_
  refine lv_iconst (v := 0) X.1 X.2.1 dX8_init_5 (by decide) ?_
  refine zr_puti (r := 116) (ss := [none, none, none, none, some none, some none]) X hW fs_X8_9_7 dX8_init_6 hr rfl rfl rfl rfl (fun H locs hW => ?_)
  obtain ⟨g_1, hg_1⟩ : ∃ z : zm_T, z = zm_w g 116 0 0 := ⟨_, rfl⟩
  change zw_St Y N0 _ _ (zm_w g 116 0 0) s H locs at hW
  rw [← hg_1] at hW
  refine lv_aload_n X.1 X.2.1 dX8_init_9 rfl (lv_at hl 0 rfl) ?_
  refine lv_iconst (v := 0) X.1 X.2.1 dX8_init_10 (by decide) ?_
  refine zr_puti (r := 116) (ss := [none, none, none, none, some none, some none]) X hW fs_X8_15_7 dX8_init_11 hr rfl rfl rfl rfl (fun H locs hW => ?_)
  obtain ⟨g_2, hg_2⟩ : ∃ z : zm_T, z = zm_w g_1 116 1 0 := ⟨_, rfl⟩
  change zw_St Y N0 _ _ (zm_w g_1 116 1 0) s H locs at hW
  rw [← hg_2] at hW
  refine lv_aload_n X.1 X.2.1 dX8_init_14 rfl (lv_at hl 0 rfl) ?_
  refine lv_iconst (v := (-1)) X.1 X.2.1 dX8_init_15 (by decide) ?_
  refine zr_puti (r := 116) (ss := [none, none, none, none, some none, some none]) X hW fs_X8_18_7 dX8_init_16 hr rfl rfl rfl rfl (fun H locs hW => ?_)
  obtain ⟨g_3, hg_3⟩ : ∃ z : zm_T, z = zm_w g_2 116 2 ((-1)) := ⟨_, rfl⟩
  change zw_St Y N0 _ _ (zm_w g_2 116 2 ((-1))) s H locs at hW
  rw [← hg_3] at hW
  refine lv_aload_n X.1 X.2.1 dX8_init_19 rfl (lv_at hl 0 rfl) ?_
  refine lv_iconst (v := 0) X.1 X.2.1 dX8_init_20 (by decide) ?_
  refine zr_puti (r := 116) (ss := [none, none, none, none, some none, some none]) X hW fs_X8_21_7 dX8_init_21 hr rfl rfl rfl rfl (fun H locs hW => ?_)
  obtain ⟨g_4, hg_4⟩ : ∃ z : zm_T, z = zm_w g_3 116 3 0 := ⟨_, rfl⟩
  change zw_St Y N0 _ _ (zm_w g_3 116 3 0) s H locs at hW
  rw [← hg_4] at hW
  refine lv_aload_n X.1 X.2.1 dX8_init_24 rfl (lv_at hl 0 rfl) ?_
  refine lv_iconst (v := 2) X.1 X.2.1 dX8_init_25 (by decide) ?_
  refine zr_newa (ti := 0) (N' := 2) (ty := .int) X hW (zt_in (zt_t1 42 rfl) rfl) rfl rfl rfl dX8_init_26 135 (hf 135 (by omega)) (by decide) rfl (by decide) (Nat.le_of_ble_eq_true rfl) (Nat.le_of_ble_eq_true rfl) (fun ad_5 H had_5 hW => ?_)
  obtain ⟨g_6, hg_6⟩ : ∃ z : zm_T, z = va_up g_4 135 (fun _ => 0) := ⟨_, rfl⟩
  rw [← hg_6] at hW
  have ha_7 : ad_5 116 = ad 116 := had_5 116 (by omega)
  refine zr_putr (r := 116) (r2 := 135) (ss := [none, none, none, none, some none, some none]) X hW fs_X8_24_7 dX8_init_28 (Or.inr ⟨rfl, hnm⟩) hr ha_7 (by decide) (fun h9 => by cases h9) rfl (fun a => ⟨rfl, rfl⟩) (fun H locs hW => ?_)
  refine lv_aload_n X.1 X.2.1 dX8_init_31 rfl (lv_at hl 0 rfl) ?_
  refine lv_iconst (v := 2) X.1 X.2.1 dX8_init_32 (by decide) ?_
  refine zr_newa (ti := 0) (N' := 2) (ty := .int) X hW (zt_in (zt_t1 42 rfl) rfl) rfl rfl rfl dX8_init_33 136 (hf 136 (by omega)) (by decide) rfl (by decide) (Nat.le_of_ble_eq_true rfl) (Nat.le_of_ble_eq_true rfl) (fun ad_8 H had_8 hW => ?_)
  obtain ⟨g_9, hg_9⟩ : ∃ z : zm_T, z = va_up g_6 136 (fun _ => 0) := ⟨_, rfl⟩
  rw [← hg_9] at hW
  have ha_10 : ad_8 116 = ad 116 := (had_8 116 (by omega)).trans ha_7
  refine zr_putr (r := 116) (r2 := 136) (ss := [none, none, none, none, some (some 135), some none]) X hW fs_X8_28_7 dX8_init_35 (Or.inr ⟨rfl, hnm⟩) rfl ha_10 (by decide) (fun h9 => by cases h9) rfl (fun a => ⟨rfl, rfl⟩) (fun H locs hW => ?_)
  refine lv_iconst (v := 0) X.1 X.2.1 dX8_init_38 (by decide) ?_
  refine lv_istore_n (lv' := [(1, .int 0), (0, .ref (ad 116))]) X.1 X.2.1 dX8_init_39 rfl hl (by decide) rfl (fun ls hl => ?_)
  refine lv_iload_n X.1 X.2.1 dX8_init_40 rfl (lv_at hl 0 rfl) ?_
  refine lv_iconst (v := 2) X.1 X.2.1 dX8_init_41 (by decide) ?_
  refine zr_icmp_ge (a := 0) (b := 2) (tgt := 65) X dX8_init_42 (by decide) (by decide) (by decide) (fun c9 => absurd c9 (by decide)) (fun _ => ?_)
  refine lv_aload_n X.1 X.2.1 dX8_init_45 rfl (lv_at hl 1 rfl) ?_
  refine zr_get (r := 116) (ss := [none, none, none, none, some (some 135), some (some 136)]) (v := .ref (ad_8 135)) X hW fs_X8_24_7 dX8_init_46 rfl ha_10 rfl rfl ?_
  refine lv_iload_n X.1 X.2.1 dX8_init_49 rfl (lv_at hl 0 rfl) ?_
  refine lv_iconst (v := (-1)) X.1 X.2.1 dX8_init_50 (by decide) ?_
  refine zr_iast (r := 135) X hW dX8_init_51 rfl rfl rfl (zi_vp (by decide)) (fun H locs hW => ?_)
  obtain ⟨g_11, hg_11⟩ : ∃ z : zm_T, z = zm_w g_9 135 0 ((-1)) := ⟨_, rfl⟩
  change zw_St Y N0 _ _ (zm_w g_9 135 0 ((-1))) s H locs at hW
  rw [← hg_11] at hW
  refine lv_aload_n X.1 X.2.1 dX8_init_52 rfl (lv_at hl 1 rfl) ?_
  refine zr_get (r := 116) (ss := [none, none, none, none, some (some 135), some (some 136)]) (v := .ref (ad_8 136)) X hW fs_X8_28_7 dX8_init_53 rfl ha_10 rfl rfl ?_
  refine lv_iload_n X.1 X.2.1 dX8_init_56 rfl (lv_at hl 0 rfl) ?_
  refine lv_iconst (v := (-1)) X.1 X.2.1 dX8_init_57 (by decide) ?_
  refine zr_iast (r := 136) X hW dX8_init_58 rfl rfl rfl (zi_vp (by decide)) (fun H locs hW => ?_)
  obtain ⟨g_12, hg_12⟩ : ∃ z : zm_T, z = zm_w g_11 136 0 ((-1)) := ⟨_, rfl⟩
  change zw_St Y N0 _ _ (zm_w g_11 136 0 ((-1))) s H locs at hW
  rw [← hg_12] at hW
  refine lv_iinc (v := 1) (lv' := [(1, .int 1), (0, .ref (ad 116))]) X.1 X.2.1 dX8_init_59 hl (k := 0) rfl (by decide) (by decide) rfl (fun ls hl => ?_)
  refine lv_goto (tgt := 40) X.1 X.2.1 dX8_init_62 (by decide) ?_
  refine lv_iload_n X.1 X.2.1 dX8_init_40 rfl (lv_at hl 0 rfl) ?_
  refine lv_iconst (v := 2) X.1 X.2.1 dX8_init_41 (by decide) ?_
  refine zr_icmp_ge (a := 1) (b := 2) (tgt := 65) X dX8_init_42 (by decide) (by decide) (by decide) (fun c9 => absurd c9 (by decide)) (fun _ => ?_)
  refine lv_aload_n X.1 X.2.1 dX8_init_45 rfl (lv_at hl 1 rfl) ?_
  refine zr_get (r := 116) (ss := [none, none, none, none, some (some 135), some (some 136)]) (v := .ref (ad_8 135)) X hW fs_X8_24_7 dX8_init_46 rfl ha_10 rfl rfl ?_
  refine lv_iload_n X.1 X.2.1 dX8_init_49 rfl (lv_at hl 0 rfl) ?_
  refine lv_iconst (v := (-1)) X.1 X.2.1 dX8_init_50 (by decide) ?_
  refine zr_iast (r := 135) X hW dX8_init_51 rfl rfl rfl (zi_vp (by decide)) (fun H locs hW => ?_)
  obtain ⟨g_13, hg_13⟩ : ∃ z : zm_T, z = zm_w g_12 135 1 ((-1)) := ⟨_, rfl⟩
  change zw_St Y N0 _ _ (zm_w g_12 135 1 ((-1))) s H locs at hW
  rw [← hg_13] at hW
  refine lv_aload_n X.1 X.2.1 dX8_init_52 rfl (lv_at hl 1 rfl) ?_
  refine zr_get (r := 116) (ss := [none, none, none, none, some (some 135), some (some 136)]) (v := .ref (ad_8 136)) X hW fs_X8_28_7 dX8_init_53 rfl ha_10 rfl rfl ?_
  refine lv_iload_n X.1 X.2.1 dX8_init_56 rfl (lv_at hl 0 rfl) ?_
  refine lv_iconst (v := (-1)) X.1 X.2.1 dX8_init_57 (by decide) ?_
  refine zr_iast (r := 136) X hW dX8_init_58 rfl rfl rfl (zi_vp (by decide)) (fun H locs hW => ?_)
  obtain ⟨g_14, hg_14⟩ : ∃ z : zm_T, z = zm_w g_13 136 1 ((-1)) := ⟨_, rfl⟩
  change zw_St Y N0 _ _ (zm_w g_13 136 1 ((-1))) s H locs at hW
  rw [← hg_14] at hW
  refine lv_iinc (v := 2) (lv' := [(1, .int 2), (0, .ref (ad 116))]) X.1 X.2.1 dX8_init_59 hl (k := 0) rfl (by decide) (by decide) rfl (fun ls hl => ?_)
  refine lv_goto (tgt := 40) X.1 X.2.1 dX8_init_62 (by decide) ?_
  refine lv_iload_n X.1 X.2.1 dX8_init_40 rfl (lv_at hl 0 rfl) ?_
  refine lv_iconst (v := 2) X.1 X.2.1 dX8_init_41 (by decide) ?_
  refine zr_icmp_ge (a := 2) (b := 2) (tgt := 65) X dX8_init_42 (by decide) (by decide) (by decide) (fun _ => ?_) (fun c9 => absurd c9 (by decide))
  exact zr_vret X hW dX8_init_65 (Nat.le_of_ble_eq_true rfl) (Nat.le_of_ble_eq_true rfl) ⟨rfl, fun r h => ((had_8 r (by omega)).trans (had_5 r (by omega))), rfl, by rw [hg_14, hg_13, hg_12, hg_11, hg_9, hg_6, hg_4, hg_3, hg_2, hg_1]⟩

set_option maxHeartbeats 4000000 in
set_option maxRecDepth 100000 in
theorem c_X8_init_2 (l : Launch) (Y : zw_Y) (N0 : Nat) (ad : Nat → Nat) (sh : Nat → Option zw_Sh) (g : zm_T) (hr : sh 117 = some (.inl (7, [none, none, none, none, some none, some none]))) (hf : ∀ r : Nat, r = 137 ∨ r = 138 → sh r = none) : zw_Met l Y N0 yX8_init cX8_init 2 none 1 20 2 4 ad sh g [.ref (ad 117)] (fun v ad' sh' g' => v = none ∧ (∀ r : Nat, (r ≠ 137 ∧ r ≠ 138) → ad' r = ad r) ∧ sh' = va_up (va_up (va_up (va_up (sh) 137 (some (.inr (0, 2, none)))) 117 (some (.inl (7, [none, none, none, none, some (some 137), some none])))) 138 (some (.inr (0, 2, none)))) 117 (some (.inl (7, [none, none, none, none, some (some 137), some (some 138)]))) ∧ g' = zm_w (zm_w (zm_w (zm_w (va_up (va_up (zm_w (zm_w (zm_w (zm_w (g) 117 0 0) 117 1 0) 117 2 ((-1))) 117 3 0) 137 (fun _ => 0)) 138 (fun _ => 0)) 137 0 ((-1))) 138 0 ((-1))) 137 1 ((-1))) 138 1 ((-1))) := by
  refine zw_meth (by decide) (Nat.le_of_ble_eq_true rfl) ?_
  intro p e s m below meth c ls X hnm hl hW
  have hl : lv_has ls 2 [(0, .ref (ad 117))] := hl
  refine lv_aload_n X.1 X.2.1 dX8_init_0 rfl (lv_at hl 0 rfl) ?_
  refine zr_objI X hl.1 ms_X8_3 dX8_init_1 (Nat.le_of_ble_eq_true rfl) (Nat.le_of_ble_eq_true rfl) (Nat.le_of_ble_eq_true rfl) ?_
  refine lv_aload_n X.1 X.2.1 dX8_init_4 rfl (lv_at hl 0 rfl) ?_
  refine lv_iconst (v := 0) X.1 X.2.1 dX8_init_5 (by decide) ?_
  refine zr_puti (r := 117) (ss := [none, none, none, none, some none, some none]) X hW fs_X8_9_7 dX8_init_6 hr rfl rfl rfl rfl (fun H locs hW => ?_)
  obtain ⟨g_1, hg_1⟩ : ∃ z : zm_T, z = zm_w g 117 0 0 := ⟨_, rfl⟩
  change zw_St Y N0 _ _ (zm_w g 117 0 0) s H locs at hW
  rw [← hg_1] at hW
  refine lv_aload_n X.1 X.2.1 dX8_init_9 rfl (lv_at hl 0 rfl) ?_
  refine lv_iconst (v := 0) X.1 X.2.1 dX8_init_10 (by decide) ?_
  refine zr_puti (r := 117) (ss := [none, none, none, none, some none, some none]) X hW fs_X8_15_7 dX8_init_11 hr rfl rfl rfl rfl (fun H locs hW => ?_)
  obtain ⟨g_2, hg_2⟩ : ∃ z : zm_T, z = zm_w g_1 117 1 0 := ⟨_, rfl⟩
  change zw_St Y N0 _ _ (zm_w g_1 117 1 0) s H locs at hW
  rw [← hg_2] at hW
  refine lv_aload_n X.1 X.2.1 dX8_init_14 rfl (lv_at hl 0 rfl) ?_
  refine lv_iconst (v := (-1)) X.1 X.2.1 dX8_init_15 (by decide) ?_
  refine zr_puti (r := 117) (ss := [none, none, none, none, some none, some none]) X hW fs_X8_18_7 dX8_init_16 hr rfl rfl rfl rfl (fun H locs hW => ?_)
  obtain ⟨g_3, hg_3⟩ : ∃ z : zm_T, z = zm_w g_2 117 2 ((-1)) := ⟨_, rfl⟩
  change zw_St Y N0 _ _ (zm_w g_2 117 2 ((-1))) s H locs at hW
  rw [← hg_3] at hW
  refine lv_aload_n X.1 X.2.1 dX8_init_19 rfl (lv_at hl 0 rfl) ?_
  refine lv_iconst (v := 0) X.1 X.2.1 dX8_init_20 (by decide) ?_
  refine zr_puti (r := 117) (ss := [none, none, none, none, some none, some none]) X hW fs_X8_21_7 dX8_init_21 hr rfl rfl rfl rfl (fun H locs hW => ?_)
  obtain ⟨g_4, hg_4⟩ : ∃ z : zm_T, z = zm_w g_3 117 3 0 := ⟨_, rfl⟩
  change zw_St Y N0 _ _ (zm_w g_3 117 3 0) s H locs at hW
  rw [← hg_4] at hW
  refine lv_aload_n X.1 X.2.1 dX8_init_24 rfl (lv_at hl 0 rfl) ?_
  refine lv_iconst (v := 2) X.1 X.2.1 dX8_init_25 (by decide) ?_
  refine zr_newa (ti := 0) (N' := 2) (ty := .int) X hW (zt_in (zt_t1 42 rfl) rfl) rfl rfl rfl dX8_init_26 137 (hf 137 (by omega)) (by decide) rfl (by decide) (Nat.le_of_ble_eq_true rfl) (Nat.le_of_ble_eq_true rfl) (fun ad_5 H had_5 hW => ?_)
  obtain ⟨g_6, hg_6⟩ : ∃ z : zm_T, z = va_up g_4 137 (fun _ => 0) := ⟨_, rfl⟩
  rw [← hg_6] at hW
  have ha_7 : ad_5 117 = ad 117 := had_5 117 (by omega)
  refine zr_putr (r := 117) (r2 := 137) (ss := [none, none, none, none, some none, some none]) X hW fs_X8_24_7 dX8_init_28 (Or.inr ⟨rfl, hnm⟩) hr ha_7 (by decide) (fun h9 => by cases h9) rfl (fun a => ⟨rfl, rfl⟩) (fun H locs hW => ?_)
  refine lv_aload_n X.1 X.2.1 dX8_init_31 rfl (lv_at hl 0 rfl) ?_
  refine lv_iconst (v := 2) X.1 X.2.1 dX8_init_32 (by decide) ?_
  refine zr_newa (ti := 0) (N' := 2) (ty := .int) X hW (zt_in (zt_t1 42 rfl) rfl) rfl rfl rfl dX8_init_33 138 (hf 138 (by omega)) (by decide) rfl (by decide) (Nat.le_of_ble_eq_true rfl) (Nat.le_of_ble_eq_true rfl) (fun ad_8 H had_8 hW => ?_)
  obtain ⟨g_9, hg_9⟩ : ∃ z : zm_T, z = va_up g_6 138 (fun _ => 0) := ⟨_, rfl⟩
  rw [← hg_9] at hW
  have ha_10 : ad_8 117 = ad 117 := (had_8 117 (by omega)).trans ha_7
  refine zr_putr (r := 117) (r2 := 138) (ss := [none, none, none, none, some (some 137), some none]) X hW fs_X8_28_7 dX8_init_35 (Or.inr ⟨rfl, hnm⟩) rfl ha_10 (by decide) (fun h9 => by cases h9) rfl (fun a => ⟨rfl, rfl⟩) (fun H locs hW => ?_)
  refine lv_iconst (v := 0) X.1 X.2.1 dX8_init_38 (by decide) ?_
  refine lv_istore_n (lv' := [(1, .int 0), (0, .ref (ad 117))]) X.1 X.2.1 dX8_init_39 rfl hl (by decide) rfl (fun ls hl => ?_)
  refine lv_iload_n X.1 X.2.1 dX8_init_40 rfl (lv_at hl 0 rfl) ?_
  refine lv_iconst (v := 2) X.1 X.2.1 dX8_init_41 (by decide) ?_
  refine zr_icmp_ge (a := 0) (b := 2) (tgt := 65) X dX8_init_42 (by decide) (by decide) (by decide) (fun c9 => absurd c9 (by decide)) (fun _ => ?_)
  refine lv_aload_n X.1 X.2.1 dX8_init_45 rfl (lv_at hl 1 rfl) ?_
  refine zr_get (r := 117) (ss := [none, none, none, none, some (some 137), some (some 138)]) (v := .ref (ad_8 137)) X hW fs_X8_24_7 dX8_init_46 rfl ha_10 rfl rfl ?_
  refine lv_iload_n X.1 X.2.1 dX8_init_49 rfl (lv_at hl 0 rfl) ?_
  refine lv_iconst (v := (-1)) X.1 X.2.1 dX8_init_50 (by decide) ?_
  refine zr_iast (r := 137) X hW dX8_init_51 rfl rfl rfl (zi_vp (by decide)) (fun H locs hW => ?_)
  obtain ⟨g_11, hg_11⟩ : ∃ z : zm_T, z = zm_w g_9 137 0 ((-1)) := ⟨_, rfl⟩
  change zw_St Y N0 _ _ (zm_w g_9 137 0 ((-1))) s H locs at hW
  rw [← hg_11] at hW
  refine lv_aload_n X.1 X.2.1 dX8_init_52 rfl (lv_at hl 1 rfl) ?_
  refine zr_get (r := 117) (ss := [none, none, none, none, some (some 137), some (some 138)]) (v := .ref (ad_8 138)) X hW fs_X8_28_7 dX8_init_53 rfl ha_10 rfl rfl ?_
  refine lv_iload_n X.1 X.2.1 dX8_init_56 rfl (lv_at hl 0 rfl) ?_
  refine lv_iconst (v := (-1)) X.1 X.2.1 dX8_init_57 (by decide) ?_
  refine zr_iast (r := 138) X hW dX8_init_58 rfl rfl rfl (zi_vp (by decide)) (fun H locs hW => ?_)
  obtain ⟨g_12, hg_12⟩ : ∃ z : zm_T, z = zm_w g_11 138 0 ((-1)) := ⟨_, rfl⟩
  change zw_St Y N0 _ _ (zm_w g_11 138 0 ((-1))) s H locs at hW
  rw [← hg_12] at hW
  refine lv_iinc (v := 1) (lv' := [(1, .int 1), (0, .ref (ad 117))]) X.1 X.2.1 dX8_init_59 hl (k := 0) rfl (by decide) (by decide) rfl (fun ls hl => ?_)
  refine lv_goto (tgt := 40) X.1 X.2.1 dX8_init_62 (by decide) ?_
  refine lv_iload_n X.1 X.2.1 dX8_init_40 rfl (lv_at hl 0 rfl) ?_
  refine lv_iconst (v := 2) X.1 X.2.1 dX8_init_41 (by decide) ?_
  refine zr_icmp_ge (a := 1) (b := 2) (tgt := 65) X dX8_init_42 (by decide) (by decide) (by decide) (fun c9 => absurd c9 (by decide)) (fun _ => ?_)
  refine lv_aload_n X.1 X.2.1 dX8_init_45 rfl (lv_at hl 1 rfl) ?_
  refine zr_get (r := 117) (ss := [none, none, none, none, some (some 137), some (some 138)]) (v := .ref (ad_8 137)) X hW fs_X8_24_7 dX8_init_46 rfl ha_10 rfl rfl ?_
  refine lv_iload_n X.1 X.2.1 dX8_init_49 rfl (lv_at hl 0 rfl) ?_
  refine lv_iconst (v := (-1)) X.1 X.2.1 dX8_init_50 (by decide) ?_
  refine zr_iast (r := 137) X hW dX8_init_51 rfl rfl rfl (zi_vp (by decide)) (fun H locs hW => ?_)
  obtain ⟨g_13, hg_13⟩ : ∃ z : zm_T, z = zm_w g_12 137 1 ((-1)) := ⟨_, rfl⟩
  change zw_St Y N0 _ _ (zm_w g_12 137 1 ((-1))) s H locs at hW
  rw [← hg_13] at hW
  refine lv_aload_n X.1 X.2.1 dX8_init_52 rfl (lv_at hl 1 rfl) ?_
  refine zr_get (r := 117) (ss := [none, none, none, none, some (some 137), some (some 138)]) (v := .ref (ad_8 138)) X hW fs_X8_28_7 dX8_init_53 rfl ha_10 rfl rfl ?_
  refine lv_iload_n X.1 X.2.1 dX8_init_56 rfl (lv_at hl 0 rfl) ?_
  refine lv_iconst (v := (-1)) X.1 X.2.1 dX8_init_57 (by decide) ?_
  refine zr_iast (r := 138) X hW dX8_init_58 rfl rfl rfl (zi_vp (by decide)) (fun H locs hW => ?_)
  obtain ⟨g_14, hg_14⟩ : ∃ z : zm_T, z = zm_w g_13 138 1 ((-1)) := ⟨_, rfl⟩
  change zw_St Y N0 _ _ (zm_w g_13 138 1 ((-1))) s H locs at hW
  rw [← hg_14] at hW
  refine lv_iinc (v := 2) (lv' := [(1, .int 2), (0, .ref (ad 117))]) X.1 X.2.1 dX8_init_59 hl (k := 0) rfl (by decide) (by decide) rfl (fun ls hl => ?_)
  refine lv_goto (tgt := 40) X.1 X.2.1 dX8_init_62 (by decide) ?_
  refine lv_iload_n X.1 X.2.1 dX8_init_40 rfl (lv_at hl 0 rfl) ?_
  refine lv_iconst (v := 2) X.1 X.2.1 dX8_init_41 (by decide) ?_
  refine zr_icmp_ge (a := 2) (b := 2) (tgt := 65) X dX8_init_42 (by decide) (by decide) (by decide) (fun _ => ?_) (fun c9 => absurd c9 (by decide))
  exact zr_vret X hW dX8_init_65 (Nat.le_of_ble_eq_true rfl) (Nat.le_of_ble_eq_true rfl) ⟨rfl, fun r h => ((had_8 r (by omega)).trans (had_5 r (by omega))), rfl, by rw [hg_14, hg_13, hg_12, hg_11, hg_9, hg_6, hg_4, hg_3, hg_2, hg_1]⟩

set_option maxHeartbeats 4000000 in
set_option maxRecDepth 100000 in
theorem c_X8_init_3 (l : Launch) (Y : zw_Y) (N0 : Nat) (ad : Nat → Nat) (sh : Nat → Option zw_Sh) (g : zm_T) (hr : sh 118 = some (.inl (7, [none, none, none, none, some none, some none]))) (hf : ∀ r : Nat, r = 139 ∨ r = 140 → sh r = none) : zw_Met l Y N0 yX8_init cX8_init 2 none 1 20 2 4 ad sh g [.ref (ad 118)] (fun v ad' sh' g' => v = none ∧ (∀ r : Nat, (r ≠ 139 ∧ r ≠ 140) → ad' r = ad r) ∧ sh' = va_up (va_up (va_up (va_up (sh) 139 (some (.inr (0, 2, none)))) 118 (some (.inl (7, [none, none, none, none, some (some 139), some none])))) 140 (some (.inr (0, 2, none)))) 118 (some (.inl (7, [none, none, none, none, some (some 139), some (some 140)]))) ∧ g' = zm_w (zm_w (zm_w (zm_w (va_up (va_up (zm_w (zm_w (zm_w (zm_w (g) 118 0 0) 118 1 0) 118 2 ((-1))) 118 3 0) 139 (fun _ => 0)) 140 (fun _ => 0)) 139 0 ((-1))) 140 0 ((-1))) 139 1 ((-1))) 140 1 ((-1))) := by
  refine zw_meth (by decide) (Nat.le_of_ble_eq_true rfl) ?_
  intro p e s m below meth c ls X hnm hl hW
  have hl : lv_has ls 2 [(0, .ref (ad 118))] := hl
  refine lv_aload_n X.1 X.2.1 dX8_init_0 rfl (lv_at hl 0 rfl) ?_
  refine zr_objI X hl.1 ms_X8_3 dX8_init_1 (Nat.le_of_ble_eq_true rfl) (Nat.le_of_ble_eq_true rfl) (Nat.le_of_ble_eq_true rfl) ?_
  refine lv_aload_n X.1 X.2.1 dX8_init_4 rfl (lv_at hl 0 rfl) ?_
  refine lv_iconst (v := 0) X.1 X.2.1 dX8_init_5 (by decide) ?_
  refine zr_puti (r := 118) (ss := [none, none, none, none, some none, some none]) X hW fs_X8_9_7 dX8_init_6 hr rfl rfl rfl rfl (fun H locs hW => ?_)
  obtain ⟨g_1, hg_1⟩ : ∃ z : zm_T, z = zm_w g 118 0 0 := ⟨_, rfl⟩
  change zw_St Y N0 _ _ (zm_w g 118 0 0) s H locs at hW
  rw [← hg_1] at hW
  refine lv_aload_n X.1 X.2.1 dX8_init_9 rfl (lv_at hl 0 rfl) ?_
  refine lv_iconst (v := 0) X.1 X.2.1 dX8_init_10 (by decide) ?_
  refine zr_puti (r := 118) (ss := [none, none, none, none, some none, some none]) X hW fs_X8_15_7 dX8_init_11 hr rfl rfl rfl rfl (fun H locs hW => ?_)
  obtain ⟨g_2, hg_2⟩ : ∃ z : zm_T, z = zm_w g_1 118 1 0 := ⟨_, rfl⟩
  change zw_St Y N0 _ _ (zm_w g_1 118 1 0) s H locs at hW
  rw [← hg_2] at hW
  refine lv_aload_n X.1 X.2.1 dX8_init_14 rfl (lv_at hl 0 rfl) ?_
  refine lv_iconst (v := (-1)) X.1 X.2.1 dX8_init_15 (by decide) ?_
  refine zr_puti (r := 118) (ss := [none, none, none, none, some none, some none]) X hW fs_X8_18_7 dX8_init_16 hr rfl rfl rfl rfl (fun H locs hW => ?_)
  obtain ⟨g_3, hg_3⟩ : ∃ z : zm_T, z = zm_w g_2 118 2 ((-1)) := ⟨_, rfl⟩
  change zw_St Y N0 _ _ (zm_w g_2 118 2 ((-1))) s H locs at hW
  rw [← hg_3] at hW
  refine lv_aload_n X.1 X.2.1 dX8_init_19 rfl (lv_at hl 0 rfl) ?_
  refine lv_iconst (v := 0) X.1 X.2.1 dX8_init_20 (by decide) ?_
  refine zr_puti (r := 118) (ss := [none, none, none, none, some none, some none]) X hW fs_X8_21_7 dX8_init_21 hr rfl rfl rfl rfl (fun H locs hW => ?_)
  obtain ⟨g_4, hg_4⟩ : ∃ z : zm_T, z = zm_w g_3 118 3 0 := ⟨_, rfl⟩
  change zw_St Y N0 _ _ (zm_w g_3 118 3 0) s H locs at hW
  rw [← hg_4] at hW
  refine lv_aload_n X.1 X.2.1 dX8_init_24 rfl (lv_at hl 0 rfl) ?_
  refine lv_iconst (v := 2) X.1 X.2.1 dX8_init_25 (by decide) ?_
  refine zr_newa (ti := 0) (N' := 2) (ty := .int) X hW (zt_in (zt_t1 42 rfl) rfl) rfl rfl rfl dX8_init_26 139 (hf 139 (by omega)) (by decide) rfl (by decide) (Nat.le_of_ble_eq_true rfl) (Nat.le_of_ble_eq_true rfl) (fun ad_5 H had_5 hW => ?_)
  obtain ⟨g_6, hg_6⟩ : ∃ z : zm_T, z = va_up g_4 139 (fun _ => 0) := ⟨_, rfl⟩
  rw [← hg_6] at hW
  have ha_7 : ad_5 118 = ad 118 := had_5 118 (by omega)
  refine zr_putr (r := 118) (r2 := 139) (ss := [none, none, none, none, some none, some none]) X hW fs_X8_24_7 dX8_init_28 (Or.inr ⟨rfl, hnm⟩) hr ha_7 (by decide) (fun h9 => by cases h9) rfl (fun a => ⟨rfl, rfl⟩) (fun H locs hW => ?_)
  refine lv_aload_n X.1 X.2.1 dX8_init_31 rfl (lv_at hl 0 rfl) ?_
  refine lv_iconst (v := 2) X.1 X.2.1 dX8_init_32 (by decide) ?_
  refine zr_newa (ti := 0) (N' := 2) (ty := .int) X hW (zt_in (zt_t1 42 rfl) rfl) rfl rfl rfl dX8_init_33 140 (hf 140 (by omega)) (by decide) rfl (by decide) (Nat.le_of_ble_eq_true rfl) (Nat.le_of_ble_eq_true rfl) (fun ad_8 H had_8 hW => ?_)
  obtain ⟨g_9, hg_9⟩ : ∃ z : zm_T, z = va_up g_6 140 (fun _ => 0) := ⟨_, rfl⟩
  rw [← hg_9] at hW
  have ha_10 : ad_8 118 = ad 118 := (had_8 118 (by omega)).trans ha_7
  refine zr_putr (r := 118) (r2 := 140) (ss := [none, none, none, none, some (some 139), some none]) X hW fs_X8_28_7 dX8_init_35 (Or.inr ⟨rfl, hnm⟩) rfl ha_10 (by decide) (fun h9 => by cases h9) rfl (fun a => ⟨rfl, rfl⟩) (fun H locs hW => ?_)
  refine lv_iconst (v := 0) X.1 X.2.1 dX8_init_38 (by decide) ?_
  refine lv_istore_n (lv' := [(1, .int 0), (0, .ref (ad 118))]) X.1 X.2.1 dX8_init_39 rfl hl (by decide) rfl (fun ls hl => ?_)
  refine lv_iload_n X.1 X.2.1 dX8_init_40 rfl (lv_at hl 0 rfl) ?_
  refine lv_iconst (v := 2) X.1 X.2.1 dX8_init_41 (by decide) ?_
  refine zr_icmp_ge (a := 0) (b := 2) (tgt := 65) X dX8_init_42 (by decide) (by decide) (by decide) (fun c9 => absurd c9 (by decide)) (fun _ => ?_)
  refine lv_aload_n X.1 X.2.1 dX8_init_45 rfl (lv_at hl 1 rfl) ?_
  refine zr_get (r := 118) (ss := [none, none, none, none, some (some 139), some (some 140)]) (v := .ref (ad_8 139)) X hW fs_X8_24_7 dX8_init_46 rfl ha_10 rfl rfl ?_
  refine lv_iload_n X.1 X.2.1 dX8_init_49 rfl (lv_at hl 0 rfl) ?_
  refine lv_iconst (v := (-1)) X.1 X.2.1 dX8_init_50 (by decide) ?_
  refine zr_iast (r := 139) X hW dX8_init_51 rfl rfl rfl (zi_vp (by decide)) (fun H locs hW => ?_)
  obtain ⟨g_11, hg_11⟩ : ∃ z : zm_T, z = zm_w g_9 139 0 ((-1)) := ⟨_, rfl⟩
  change zw_St Y N0 _ _ (zm_w g_9 139 0 ((-1))) s H locs at hW
  rw [← hg_11] at hW
  refine lv_aload_n X.1 X.2.1 dX8_init_52 rfl (lv_at hl 1 rfl) ?_
  refine zr_get (r := 118) (ss := [none, none, none, none, some (some 139), some (some 140)]) (v := .ref (ad_8 140)) X hW fs_X8_28_7 dX8_init_53 rfl ha_10 rfl rfl ?_
  refine lv_iload_n X.1 X.2.1 dX8_init_56 rfl (lv_at hl 0 rfl) ?_
  refine lv_iconst (v := (-1)) X.1 X.2.1 dX8_init_57 (by decide) ?_
  refine zr_iast (r := 140) X hW dX8_init_58 rfl rfl rfl (zi_vp (by decide)) (fun H locs hW => ?_)
  obtain ⟨g_12, hg_12⟩ : ∃ z : zm_T, z = zm_w g_11 140 0 ((-1)) := ⟨_, rfl⟩
  change zw_St Y N0 _ _ (zm_w g_11 140 0 ((-1))) s H locs at hW
  rw [← hg_12] at hW
  refine lv_iinc (v := 1) (lv' := [(1, .int 1), (0, .ref (ad 118))]) X.1 X.2.1 dX8_init_59 hl (k := 0) rfl (by decide) (by decide) rfl (fun ls hl => ?_)
  refine lv_goto (tgt := 40) X.1 X.2.1 dX8_init_62 (by decide) ?_
  refine lv_iload_n X.1 X.2.1 dX8_init_40 rfl (lv_at hl 0 rfl) ?_
  refine lv_iconst (v := 2) X.1 X.2.1 dX8_init_41 (by decide) ?_
  refine zr_icmp_ge (a := 1) (b := 2) (tgt := 65) X dX8_init_42 (by decide) (by decide) (by decide) (fun c9 => absurd c9 (by decide)) (fun _ => ?_)
  refine lv_aload_n X.1 X.2.1 dX8_init_45 rfl (lv_at hl 1 rfl) ?_
  refine zr_get (r := 118) (ss := [none, none, none, none, some (some 139), some (some 140)]) (v := .ref (ad_8 139)) X hW fs_X8_24_7 dX8_init_46 rfl ha_10 rfl rfl ?_
  refine lv_iload_n X.1 X.2.1 dX8_init_49 rfl (lv_at hl 0 rfl) ?_
  refine lv_iconst (v := (-1)) X.1 X.2.1 dX8_init_50 (by decide) ?_
  refine zr_iast (r := 139) X hW dX8_init_51 rfl rfl rfl (zi_vp (by decide)) (fun H locs hW => ?_)
  obtain ⟨g_13, hg_13⟩ : ∃ z : zm_T, z = zm_w g_12 139 1 ((-1)) := ⟨_, rfl⟩
  change zw_St Y N0 _ _ (zm_w g_12 139 1 ((-1))) s H locs at hW
  rw [← hg_13] at hW
  refine lv_aload_n X.1 X.2.1 dX8_init_52 rfl (lv_at hl 1 rfl) ?_
  refine zr_get (r := 118) (ss := [none, none, none, none, some (some 139), some (some 140)]) (v := .ref (ad_8 140)) X hW fs_X8_28_7 dX8_init_53 rfl ha_10 rfl rfl ?_
  refine lv_iload_n X.1 X.2.1 dX8_init_56 rfl (lv_at hl 0 rfl) ?_
  refine lv_iconst (v := (-1)) X.1 X.2.1 dX8_init_57 (by decide) ?_
  refine zr_iast (r := 140) X hW dX8_init_58 rfl rfl rfl (zi_vp (by decide)) (fun H locs hW => ?_)
  obtain ⟨g_14, hg_14⟩ : ∃ z : zm_T, z = zm_w g_13 140 1 ((-1)) := ⟨_, rfl⟩
  change zw_St Y N0 _ _ (zm_w g_13 140 1 ((-1))) s H locs at hW
  rw [← hg_14] at hW
  refine lv_iinc (v := 2) (lv' := [(1, .int 2), (0, .ref (ad 118))]) X.1 X.2.1 dX8_init_59 hl (k := 0) rfl (by decide) (by decide) rfl (fun ls hl => ?_)
  refine lv_goto (tgt := 40) X.1 X.2.1 dX8_init_62 (by decide) ?_
  refine lv_iload_n X.1 X.2.1 dX8_init_40 rfl (lv_at hl 0 rfl) ?_
  refine lv_iconst (v := 2) X.1 X.2.1 dX8_init_41 (by decide) ?_
  refine zr_icmp_ge (a := 2) (b := 2) (tgt := 65) X dX8_init_42 (by decide) (by decide) (by decide) (fun _ => ?_) (fun c9 => absurd c9 (by decide))
  exact zr_vret X hW dX8_init_65 (Nat.le_of_ble_eq_true rfl) (Nat.le_of_ble_eq_true rfl) ⟨rfl, fun r h => ((had_8 r (by omega)).trans (had_5 r (by omega))), rfl, by rw [hg_14, hg_13, hg_12, hg_11, hg_9, hg_6, hg_4, hg_3, hg_2, hg_1]⟩

set_option maxHeartbeats 4000000 in
set_option maxRecDepth 100000 in
theorem c_X2_init_0 (l : Launch) (Y : zw_Y) (N0 : Nat) (ad : Nat → Nat) (sh : Nat → Option zw_Sh) (g : zm_T) (hr : sh 106 = some (.inl (2, [some none, some none, none, none]))) (hf : ∀ r : Nat, r = 119 ∨ r = 120 → sh r = none) : zw_Met l Y N0 yX2_init cX2_init 1 none 1 20 2 15 ad sh g [.ref (ad 106)] (fun v ad' sh' g' => v = none ∧ (∀ r : Nat, (r ≠ 119 ∧ r ≠ 120) → ad' r = ad r) ∧ sh' = va_up (va_up (va_up (va_up (sh) 119 (some (.inr (0, 3, none)))) 106 (some (.inl (2, [some (some 119), some none, none, none])))) 120 (some (.inr (2, 12, some (fun _ => none))))) 106 (some (.inl (2, [some (some 119), some (some 120), none, none]))) ∧ g' = zm_w (zm_w (va_up (va_up (g) 119 (fun _ => 0)) 120 (fun _ => 0)) 106 2 0) 106 3 0) := by
  refine zw_meth (by decide) (Nat.le_of_ble_eq_true rfl) ?_
  intro p e s m below meth c ls X hnm hl hW
  have hl : lv_has ls 1 [(0, .ref (ad 106))] := hl
  refine lv_aload_n X.1 X.2.1 dX2_init_0 rfl (lv_at hl 0 rfl) ?_
  refine zr_objI X hl.1 ms_X2_3 dX2_init_1 (Nat.le_of_ble_eq_true rfl) (Nat.le_of_ble_eq_true rfl) (Nat.le_of_ble_eq_true rfl) ?_
  refine lv_aload_n X.1 X.2.1 dX2_init_4 rfl (lv_at hl 0 rfl) ?_
  refine lv_iconst (v := 3) X.1 X.2.1 dX2_init_5 (by decide) ?_
  refine zr_newa (ti := 0) (N' := 3) (ty := .int) X hW (zt_in (zt_t1 42 rfl) rfl) rfl rfl rfl dX2_init_6 119 (hf 119 (by omega)) (by decide) rfl (by decide) (Nat.le_of_ble_eq_true rfl) (Nat.le_of_ble_eq_true rfl) (fun ad_1 H had_1 hW => ?_)
  obtain ⟨g_2, hg_2⟩ : ∃ z : zm_T, z = va_up g 119 (fun _ => 0) := ⟨_, rfl⟩
  rw [← hg_2] at hW
  have ha_3 : ad_1 106 = ad 106 := had_1 106 (by omega)
  refine zr_putr (r := 106) (r2 := 119) (ss := [some none, some none, none, none]) X hW fs_X2_9_2 dX2_init_8 (Or.inr ⟨rfl, hnm⟩) hr ha_3 (by decide) (fun h9 => by cases h9) rfl (fun a => ⟨rfl, rfl⟩) (fun H locs hW => ?_)
  refine lv_aload_n X.1 X.2.1 dX2_init_11 rfl (lv_at hl 0 rfl) ?_
  refine lv_bipush (v := 12) X.1 X.2.1 dX2_init_12 (by decide) ?_
  refine zr_newq (ti := 2) (N' := 12) X hW kl_X2_15 (by decide) rfl dX2_init_14 120 (hf 120 (by omega)) (by decide) rfl (by decide) (Nat.le_of_ble_eq_true rfl) (Nat.le_of_ble_eq_true rfl) (fun ad_4 H had_4 hW => ?_)
  obtain ⟨g_5, hg_5⟩ : ∃ z : zm_T, z = va_up g_2 120 (fun _ => 0) := ⟨_, rfl⟩
  rw [← hg_5] at hW
  have ha_6 : ad_4 106 = ad 106 := (had_4 106 (by omega)).trans ha_3
  refine zr_putr (r := 106) (r2 := 120) (ss := [some (some 119), some none, none, none]) X hW fs_X2_17_2 dX2_init_17 (Or.inr ⟨rfl, hnm⟩) rfl ha_6 (by decide) (fun h9 => by cases h9) rfl (fun a => ⟨rfl, rfl⟩) (fun H locs hW => ?_)
  refine lv_aload_n X.1 X.2.1 dX2_init_20 rfl (lv_at hl 0 rfl) ?_
  refine lv_iconst (v := 0) X.1 X.2.1 dX2_init_21 (by decide) ?_
  refine zr_puti (r := 106) (ss := [some (some 119), some (some 120), none, none]) X hW fs_X2_21_2 dX2_init_22 rfl ha_6 rfl rfl rfl (fun H locs hW => ?_)
  obtain ⟨g_7, hg_7⟩ : ∃ z : zm_T, z = zm_w g_5 106 2 0 := ⟨_, rfl⟩
  change zw_St Y N0 _ _ (zm_w g_5 106 2 0) s H locs at hW
  rw [← hg_7] at hW
  refine lv_aload_n X.1 X.2.1 dX2_init_25 rfl (lv_at hl 0 rfl) ?_
  refine lv_iconst (v := 0) X.1 X.2.1 dX2_init_26 (by decide) ?_
  refine zr_puti (r := 106) (ss := [some (some 119), some (some 120), none, none]) X hW fs_X2_25_2 dX2_init_27 rfl ha_6 rfl rfl rfl (fun H locs hW => ?_)
  obtain ⟨g_8, hg_8⟩ : ∃ z : zm_T, z = zm_w g_7 106 3 0 := ⟨_, rfl⟩
  change zw_St Y N0 _ _ (zm_w g_7 106 3 0) s H locs at hW
  rw [← hg_8] at hW
  exact zr_vret X hW dX2_init_30 (Nat.le_of_ble_eq_true rfl) (Nat.le_of_ble_eq_true rfl) ⟨rfl, fun r h => ((had_4 r (by omega)).trans (had_1 r (by omega))), rfl, by rw [hg_8, hg_7, hg_5, hg_2]⟩

set_option maxHeartbeats 4000000 in
set_option maxRecDepth 100000 in
theorem c_X0_init_b (l : Launch) (Y : zw_Y) (N0 : Nat) (ad : Nat → Nat) (sh : Nat → Option zw_Sh) (g : zm_T) (hr : sh 103 = some (.inl (0, [some none, some none, some none]))) (hf : ∀ r : Nat, r = 109 ∨ r = 110 ∨ r = 111 ∨ (121 ≤ r ∧ r < 127) → sh r = none) : zw_Met l Y N0 yX0_init cX0_init 2 none 1 20 9 36 ad sh g [.ref (ad 103)] (fun v ad' sh' g' => v = none ∧ (∀ r : Nat, (r ≠ 109 ∧ r ≠ 110 ∧ r ≠ 111 ∧ (r < 121 ∨ 127 ≤ r)) → ad' r = ad r) ∧ sh' = va_up (zv_sh (va_up (va_up (va_up (va_up (sh) 109 (some (.inr (0, 6, none)))) 103 (some (.inl (0, [some (some 109), some none, some none])))) 110 (some (.inr (0, 6, none)))) 103 (some (.inl (0, [some (some 109), some (some 110), some none])))) 111 121) 103 (some (.inl (0, [some (some 109), some (some 110), some (some 111)]))) ∧ g' = zm_w (zm_w (zm_w (zm_w (zm_w (zm_w (zv_g (va_up (va_up (g) 109 (fun _ => 0)) 110 (fun _ => 0)) 111 121) 109 0 ((-1))) 109 1 ((-1))) 109 2 ((-1))) 109 3 ((-1))) 109 4 ((-1))) 109 5 ((-1))) := by
  refine zw_meth (by decide) (Nat.le_of_ble_eq_true rfl) ?_
  intro p e s m below meth c ls X hnm hl hW
  have hl : lv_has ls 2 [(0, .ref (ad 103))] := hl
  refine lv_aload_n X.1 X.2.1 dX0_init_0 rfl (lv_at hl 0 rfl) ?_
  refine zr_objI X hl.1 ms_X0_3 dX0_init_1 (Nat.le_of_ble_eq_true rfl) (Nat.le_of_ble_eq_true rfl) (Nat.le_of_ble_eq_true rfl) ?_
  refine lv_aload_n X.1 X.2.1 dX0_init_4 rfl (lv_at hl 0 rfl) ?_
  refine lv_bipush (v := 6) X.1 X.2.1 dX0_init_5 (by decide) ?_
  refine zr_newa (ti := 0) (N' := 6) (ty := .int) X hW (zt_in (zt_t1 42 rfl) rfl) rfl rfl rfl dX0_init_7 109 (hf 109 (by omega)) (by decide) rfl (by decide) (Nat.le_of_ble_eq_true rfl) (Nat.le_of_ble_eq_true rfl) (fun ad_1 H had_1 hW => ?_)
  obtain ⟨g_2, hg_2⟩ : ∃ z : zm_T, z = va_up g 109 (fun _ => 0) := ⟨_, rfl⟩
  rw [← hg_2] at hW
  have ha_3 : ad_1 103 = ad 103 := had_1 103 (by omega)
  refine zr_putr (r := 103) (r2 := 109) (ss := [some none, some none, some none]) X hW fs_X0_9_0 dX0_init_9 (Or.inr ⟨rfl, hnm⟩) hr ha_3 (by decide) (fun h9 => by cases h9) rfl (fun a => ⟨rfl, rfl⟩) (fun H locs hW => ?_)
  refine lv_aload_n X.1 X.2.1 dX0_init_12 rfl (lv_at hl 0 rfl) ?_
  refine lv_bipush (v := 6) X.1 X.2.1 dX0_init_13 (by decide) ?_
  refine zr_newa (ti := 0) (N' := 6) (ty := .int) X hW (zt_in (zt_t1 42 rfl) rfl) rfl rfl rfl dX0_init_15 110 (hf 110 (by omega)) (by decide) rfl (by decide) (Nat.le_of_ble_eq_true rfl) (Nat.le_of_ble_eq_true rfl) (fun ad_4 H had_4 hW => ?_)
  obtain ⟨g_5, hg_5⟩ : ∃ z : zm_T, z = va_up g_2 110 (fun _ => 0) := ⟨_, rfl⟩
  rw [← hg_5] at hW
  have ha_6 : ad_4 103 = ad 103 := (had_4 103 (by omega)).trans ha_3
  refine zr_putr (r := 103) (r2 := 110) (ss := [some (some 109), some none, some none]) X hW fs_X0_15_0 dX0_init_17 (Or.inr ⟨rfl, hnm⟩) rfl ha_6 (by decide) (fun h9 => by cases h9) rfl (fun a => ⟨rfl, rfl⟩) (fun H locs hW => ?_)
  refine lv_aload_n X.1 X.2.1 dX0_init_20 rfl (lv_at hl 0 rfl) ?_
  refine lv_bipush (v := 6) X.1 X.2.1 dX0_init_21 (by decide) ?_
  refine lv_iconst (v := 3) X.1 X.2.1 dX0_init_23 (by decide) ?_
  refine zr_mna X hW (zt_in (zt_t1 27 rfl) rfl) (zt_in (zt_t1 42 rfl) rfl) dX0_init_24 111 121 (hf 111 (by omega)) (fun j hj => by rw [va_up_ne _ _ (by omega), va_up_ne _ _ (by omega), va_up_ne _ _ (by omega), va_up_ne _ _ (by omega)]; exact hf (121 + j) (by omega)) (fun j hj => by omega) (Nat.le_of_ble_eq_true rfl) (Nat.le_of_ble_eq_true rfl) (fun ad_7 H had_7 hW => ?_)
  obtain ⟨g_8, hg_8⟩ : ∃ z : zm_T, z = zv_g g_5 111 121 := ⟨_, rfl⟩
  rw [← hg_8] at hW
  have ha_9 : ad_7 103 = ad 103 := (had_7 103 (by omega) (by omega)).trans ha_6
  refine zr_putr (r := 103) (r2 := 111) (ss := [some (some 109), some (some 110), some none]) X hW fs_X0_20_0 dX0_init_28 (Or.inr ⟨rfl, hnm⟩) rfl ha_9 (by decide) (fun h9 => by cases h9) rfl (fun a => ⟨rfl, rfl⟩) (fun H locs hW => ?_)
  refine lv_iconst (v := 0) X.1 X.2.1 dX0_init_31 (by decide) ?_
  refine lv_istore_n (lv' := [(1, .int 0), (0, .ref (ad 103))]) X.1 X.2.1 dX0_init_32 rfl hl (by decide) rfl (fun ls hl => ?_)
  refine lv_iload_n X.1 X.2.1 dX0_init_33 rfl (lv_at hl 0 rfl) ?_
  refine lv_bipush (v := 6) X.1 X.2.1 dX0_init_34 (by decide) ?_
  refine zr_icmp_ge (a := 0) (b := 6) (tgt := 52) X dX0_init_36 (by decide) (by decide) (by decide) (fun c9 => absurd c9 (by decide)) (fun _ => ?_)
  refine lv_aload_n X.1 X.2.1 dX0_init_39 rfl (lv_at hl 1 rfl) ?_
  refine zr_get (r := 103) (ss := [some (some 109), some (some 110), some (some 111)]) (v := .ref (ad_7 109)) X hW fs_X0_9_0 dX0_init_40 rfl ha_9 rfl rfl ?_
  refine lv_iload_n X.1 X.2.1 dX0_init_43 rfl (lv_at hl 0 rfl) ?_
  refine lv_iconst (v := (-1)) X.1 X.2.1 dX0_init_44 (by decide) ?_
  refine zr_iast (r := 109) X hW dX0_init_45 rfl rfl rfl (zi_vp (by decide)) (fun H locs hW => ?_)
  obtain ⟨g_10, hg_10⟩ : ∃ z : zm_T, z = zm_w g_8 109 0 ((-1)) := ⟨_, rfl⟩
  change zw_St Y N0 _ _ (zm_w g_8 109 0 ((-1))) s H locs at hW
  rw [← hg_10] at hW
  refine lv_iinc (v := 1) (lv' := [(1, .int 1), (0, .ref (ad 103))]) X.1 X.2.1 dX0_init_46 hl (k := 0) rfl (by decide) (by decide) rfl (fun ls hl => ?_)
  refine lv_goto (tgt := 33) X.1 X.2.1 dX0_init_49 (by decide) ?_
  refine lv_iload_n X.1 X.2.1 dX0_init_33 rfl (lv_at hl 0 rfl) ?_
  refine lv_bipush (v := 6) X.1 X.2.1 dX0_init_34 (by decide) ?_
  refine zr_icmp_ge (a := 1) (b := 6) (tgt := 52) X dX0_init_36 (by decide) (by decide) (by decide) (fun c9 => absurd c9 (by decide)) (fun _ => ?_)
  refine lv_aload_n X.1 X.2.1 dX0_init_39 rfl (lv_at hl 1 rfl) ?_
  refine zr_get (r := 103) (ss := [some (some 109), some (some 110), some (some 111)]) (v := .ref (ad_7 109)) X hW fs_X0_9_0 dX0_init_40 rfl ha_9 rfl rfl ?_
  refine lv_iload_n X.1 X.2.1 dX0_init_43 rfl (lv_at hl 0 rfl) ?_
  refine lv_iconst (v := (-1)) X.1 X.2.1 dX0_init_44 (by decide) ?_
  refine zr_iast (r := 109) X hW dX0_init_45 rfl rfl rfl (zi_vp (by decide)) (fun H locs hW => ?_)
  obtain ⟨g_11, hg_11⟩ : ∃ z : zm_T, z = zm_w g_10 109 1 ((-1)) := ⟨_, rfl⟩
  change zw_St Y N0 _ _ (zm_w g_10 109 1 ((-1))) s H locs at hW
  rw [← hg_11] at hW
  refine lv_iinc (v := 2) (lv' := [(1, .int 2), (0, .ref (ad 103))]) X.1 X.2.1 dX0_init_46 hl (k := 0) rfl (by decide) (by decide) rfl (fun ls hl => ?_)
  refine lv_goto (tgt := 33) X.1 X.2.1 dX0_init_49 (by decide) ?_
  refine lv_iload_n X.1 X.2.1 dX0_init_33 rfl (lv_at hl 0 rfl) ?_
  refine lv_bipush (v := 6) X.1 X.2.1 dX0_init_34 (by decide) ?_
  refine zr_icmp_ge (a := 2) (b := 6) (tgt := 52) X dX0_init_36 (by decide) (by decide) (by decide) (fun c9 => absurd c9 (by decide)) (fun _ => ?_)
  refine lv_aload_n X.1 X.2.1 dX0_init_39 rfl (lv_at hl 1 rfl) ?_
  refine zr_get (r := 103) (ss := [some (some 109), some (some 110), some (some 111)]) (v := .ref (ad_7 109)) X hW fs_X0_9_0 dX0_init_40 rfl ha_9 rfl rfl ?_
  refine lv_iload_n X.1 X.2.1 dX0_init_43 rfl (lv_at hl 0 rfl) ?_
  refine lv_iconst (v := (-1)) X.1 X.2.1 dX0_init_44 (by decide) ?_
  refine zr_iast (r := 109) X hW dX0_init_45 rfl rfl rfl (zi_vp (by decide)) (fun H locs hW => ?_)
  obtain ⟨g_12, hg_12⟩ : ∃ z : zm_T, z = zm_w g_11 109 2 ((-1)) := ⟨_, rfl⟩
  change zw_St Y N0 _ _ (zm_w g_11 109 2 ((-1))) s H locs at hW
  rw [← hg_12] at hW
  refine lv_iinc (v := 3) (lv' := [(1, .int 3), (0, .ref (ad 103))]) X.1 X.2.1 dX0_init_46 hl (k := 0) rfl (by decide) (by decide) rfl (fun ls hl => ?_)
  refine lv_goto (tgt := 33) X.1 X.2.1 dX0_init_49 (by decide) ?_
  refine lv_iload_n X.1 X.2.1 dX0_init_33 rfl (lv_at hl 0 rfl) ?_
  refine lv_bipush (v := 6) X.1 X.2.1 dX0_init_34 (by decide) ?_
  refine zr_icmp_ge (a := 3) (b := 6) (tgt := 52) X dX0_init_36 (by decide) (by decide) (by decide) (fun c9 => absurd c9 (by decide)) (fun _ => ?_)
  refine lv_aload_n X.1 X.2.1 dX0_init_39 rfl (lv_at hl 1 rfl) ?_
  refine zr_get (r := 103) (ss := [some (some 109), some (some 110), some (some 111)]) (v := .ref (ad_7 109)) X hW fs_X0_9_0 dX0_init_40 rfl ha_9 rfl rfl ?_
  refine lv_iload_n X.1 X.2.1 dX0_init_43 rfl (lv_at hl 0 rfl) ?_
  refine lv_iconst (v := (-1)) X.1 X.2.1 dX0_init_44 (by decide) ?_
  refine zr_iast (r := 109) X hW dX0_init_45 rfl rfl rfl (zi_vp (by decide)) (fun H locs hW => ?_)
  obtain ⟨g_13, hg_13⟩ : ∃ z : zm_T, z = zm_w g_12 109 3 ((-1)) := ⟨_, rfl⟩
  change zw_St Y N0 _ _ (zm_w g_12 109 3 ((-1))) s H locs at hW
  rw [← hg_13] at hW
  refine lv_iinc (v := 4) (lv' := [(1, .int 4), (0, .ref (ad 103))]) X.1 X.2.1 dX0_init_46 hl (k := 0) rfl (by decide) (by decide) rfl (fun ls hl => ?_)
  refine lv_goto (tgt := 33) X.1 X.2.1 dX0_init_49 (by decide) ?_
  refine lv_iload_n X.1 X.2.1 dX0_init_33 rfl (lv_at hl 0 rfl) ?_
  refine lv_bipush (v := 6) X.1 X.2.1 dX0_init_34 (by decide) ?_
  refine zr_icmp_ge (a := 4) (b := 6) (tgt := 52) X dX0_init_36 (by decide) (by decide) (by decide) (fun c9 => absurd c9 (by decide)) (fun _ => ?_)
  refine lv_aload_n X.1 X.2.1 dX0_init_39 rfl (lv_at hl 1 rfl) ?_
  refine zr_get (r := 103) (ss := [some (some 109), some (some 110), some (some 111)]) (v := .ref (ad_7 109)) X hW fs_X0_9_0 dX0_init_40 rfl ha_9 rfl rfl ?_
  refine lv_iload_n X.1 X.2.1 dX0_init_43 rfl (lv_at hl 0 rfl) ?_
  refine lv_iconst (v := (-1)) X.1 X.2.1 dX0_init_44 (by decide) ?_
  refine zr_iast (r := 109) X hW dX0_init_45 rfl rfl rfl (zi_vp (by decide)) (fun H locs hW => ?_)
  obtain ⟨g_14, hg_14⟩ : ∃ z : zm_T, z = zm_w g_13 109 4 ((-1)) := ⟨_, rfl⟩
  change zw_St Y N0 _ _ (zm_w g_13 109 4 ((-1))) s H locs at hW
  rw [← hg_14] at hW
  refine lv_iinc (v := 5) (lv' := [(1, .int 5), (0, .ref (ad 103))]) X.1 X.2.1 dX0_init_46 hl (k := 0) rfl (by decide) (by decide) rfl (fun ls hl => ?_)
  refine lv_goto (tgt := 33) X.1 X.2.1 dX0_init_49 (by decide) ?_
  refine lv_iload_n X.1 X.2.1 dX0_init_33 rfl (lv_at hl 0 rfl) ?_
  refine lv_bipush (v := 6) X.1 X.2.1 dX0_init_34 (by decide) ?_
  refine zr_icmp_ge (a := 5) (b := 6) (tgt := 52) X dX0_init_36 (by decide) (by decide) (by decide) (fun c9 => absurd c9 (by decide)) (fun _ => ?_)
  refine lv_aload_n X.1 X.2.1 dX0_init_39 rfl (lv_at hl 1 rfl) ?_
  refine zr_get (r := 103) (ss := [some (some 109), some (some 110), some (some 111)]) (v := .ref (ad_7 109)) X hW fs_X0_9_0 dX0_init_40 rfl ha_9 rfl rfl ?_
  refine lv_iload_n X.1 X.2.1 dX0_init_43 rfl (lv_at hl 0 rfl) ?_
  refine lv_iconst (v := (-1)) X.1 X.2.1 dX0_init_44 (by decide) ?_
  refine zr_iast (r := 109) X hW dX0_init_45 rfl rfl rfl (zi_vp (by decide)) (fun H locs hW => ?_)
  obtain ⟨g_15, hg_15⟩ : ∃ z : zm_T, z = zm_w g_14 109 5 ((-1)) := ⟨_, rfl⟩
  change zw_St Y N0 _ _ (zm_w g_14 109 5 ((-1))) s H locs at hW
  rw [← hg_15] at hW
  refine lv_iinc (v := 6) (lv' := [(1, .int 6), (0, .ref (ad 103))]) X.1 X.2.1 dX0_init_46 hl (k := 0) rfl (by decide) (by decide) rfl (fun ls hl => ?_)
  refine lv_goto (tgt := 33) X.1 X.2.1 dX0_init_49 (by decide) ?_
  refine lv_iload_n X.1 X.2.1 dX0_init_33 rfl (lv_at hl 0 rfl) ?_
  refine lv_bipush (v := 6) X.1 X.2.1 dX0_init_34 (by decide) ?_
  refine zr_icmp_ge (a := 6) (b := 6) (tgt := 52) X dX0_init_36 (by decide) (by decide) (by decide) (fun _ => ?_) (fun c9 => absurd c9 (by decide))
  exact zr_vret X hW dX0_init_52 (Nat.le_of_ble_eq_true rfl) (Nat.le_of_ble_eq_true rfl) ⟨rfl, fun r h => ((had_7 r (by omega) (by omega)).trans ((had_4 r (by omega)).trans (had_1 r (by omega)))), rfl, by rw [hg_15, hg_14, hg_13, hg_12, hg_11, hg_10, hg_8, hg_5, hg_2]⟩

set_option maxHeartbeats 4000000 in
set_option maxRecDepth 100000 in
theorem c_X0_init_s (l : Launch) (Y : zw_Y) (N0 : Nat) (ad : Nat → Nat) (sh : Nat → Option zw_Sh) (g : zm_T) (hr : sh 104 = some (.inl (0, [some none, some none, some none]))) (hf : ∀ r : Nat, r = 112 ∨ r = 113 ∨ r = 114 ∨ (127 ≤ r ∧ r < 133) → sh r = none) : zw_Met l Y N0 yX0_init cX0_init 2 none 1 20 9 36 ad sh g [.ref (ad 104)] (fun v ad' sh' g' => v = none ∧ (∀ r : Nat, (r ≠ 112 ∧ r ≠ 113 ∧ r ≠ 114 ∧ (r < 127 ∨ 133 ≤ r)) → ad' r = ad r) ∧ sh' = va_up (zv_sh (va_up (va_up (va_up (va_up (sh) 112 (some (.inr (0, 6, none)))) 104 (some (.inl (0, [some (some 112), some none, some none])))) 113 (some (.inr (0, 6, none)))) 104 (some (.inl (0, [some (some 112), some (some 113), some none])))) 114 127) 104 (some (.inl (0, [some (some 112), some (some 113), some (some 114)]))) ∧ g' = zm_w (zm_w (zm_w (zm_w (zm_w (zm_w (zv_g (va_up (va_up (g) 112 (fun _ => 0)) 113 (fun _ => 0)) 114 127) 112 0 ((-1))) 112 1 ((-1))) 112 2 ((-1))) 112 3 ((-1))) 112 4 ((-1))) 112 5 ((-1))) := by
  refine zw_meth (by decide) (Nat.le_of_ble_eq_true rfl) ?_
  intro p e s m below meth c ls X hnm hl hW
  have hl : lv_has ls 2 [(0, .ref (ad 104))] := hl
  refine lv_aload_n X.1 X.2.1 dX0_init_0 rfl (lv_at hl 0 rfl) ?_
  refine zr_objI X hl.1 ms_X0_3 dX0_init_1 (Nat.le_of_ble_eq_true rfl) (Nat.le_of_ble_eq_true rfl) (Nat.le_of_ble_eq_true rfl) ?_
  refine lv_aload_n X.1 X.2.1 dX0_init_4 rfl (lv_at hl 0 rfl) ?_
  refine lv_bipush (v := 6) X.1 X.2.1 dX0_init_5 (by decide) ?_
  refine zr_newa (ti := 0) (N' := 6) (ty := .int) X hW (zt_in (zt_t1 42 rfl) rfl) rfl rfl rfl dX0_init_7 112 (hf 112 (by omega)) (by decide) rfl (by decide) (Nat.le_of_ble_eq_true rfl) (Nat.le_of_ble_eq_true rfl) (fun ad_1 H had_1 hW => ?_)
  obtain ⟨g_2, hg_2⟩ : ∃ z : zm_T, z = va_up g 112 (fun _ => 0) := ⟨_, rfl⟩
  rw [← hg_2] at hW
  have ha_3 : ad_1 104 = ad 104 := had_1 104 (by omega)
  refine zr_putr (r := 104) (r2 := 112) (ss := [some none, some none, some none]) X hW fs_X0_9_0 dX0_init_9 (Or.inr ⟨rfl, hnm⟩) hr ha_3 (by decide) (fun h9 => by cases h9) rfl (fun a => ⟨rfl, rfl⟩) (fun H locs hW => ?_)
  refine lv_aload_n X.1 X.2.1 dX0_init_12 rfl (lv_at hl 0 rfl) ?_
  refine lv_bipush (v := 6) X.1 X.2.1 dX0_init_13 (by decide) ?_
  refine zr_newa (ti := 0) (N' := 6) (ty := .int) X hW (zt_in (zt_t1 42 rfl) rfl) rfl rfl rfl dX0_init_15 113 (hf 113 (by omega)) (by decide) rfl (by decide) (Nat.le_of_ble_eq_true rfl) (Nat.le_of_ble_eq_true rfl) (fun ad_4 H had_4 hW => ?_)
  obtain ⟨g_5, hg_5⟩ : ∃ z : zm_T, z = va_up g_2 113 (fun _ => 0) := ⟨_, rfl⟩
  rw [← hg_5] at hW
  have ha_6 : ad_4 104 = ad 104 := (had_4 104 (by omega)).trans ha_3
  refine zr_putr (r := 104) (r2 := 113) (ss := [some (some 112), some none, some none]) X hW fs_X0_15_0 dX0_init_17 (Or.inr ⟨rfl, hnm⟩) rfl ha_6 (by decide) (fun h9 => by cases h9) rfl (fun a => ⟨rfl, rfl⟩) (fun H locs hW => ?_)
  refine lv_aload_n X.1 X.2.1 dX0_init_20 rfl (lv_at hl 0 rfl) ?_
  refine lv_bipush (v := 6) X.1 X.2.1 dX0_init_21 (by decide) ?_
  refine lv_iconst (v := 3) X.1 X.2.1 dX0_init_23 (by decide) ?_
  refine zr_mna X hW (zt_in (zt_t1 27 rfl) rfl) (zt_in (zt_t1 42 rfl) rfl) dX0_init_24 114 127 (hf 114 (by omega)) (fun j hj => by rw [va_up_ne _ _ (by omega), va_up_ne _ _ (by omega), va_up_ne _ _ (by omega), va_up_ne _ _ (by omega)]; exact hf (127 + j) (by omega)) (fun j hj => by omega) (Nat.le_of_ble_eq_true rfl) (Nat.le_of_ble_eq_true rfl) (fun ad_7 H had_7 hW => ?_)
  obtain ⟨g_8, hg_8⟩ : ∃ z : zm_T, z = zv_g g_5 114 127 := ⟨_, rfl⟩
  rw [← hg_8] at hW
  have ha_9 : ad_7 104 = ad 104 := (had_7 104 (by omega) (by omega)).trans ha_6
  refine zr_putr (r := 104) (r2 := 114) (ss := [some (some 112), some (some 113), some none]) X hW fs_X0_20_0 dX0_init_28 (Or.inr ⟨rfl, hnm⟩) rfl ha_9 (by decide) (fun h9 => by cases h9) rfl (fun a => ⟨rfl, rfl⟩) (fun H locs hW => ?_)
  refine lv_iconst (v := 0) X.1 X.2.1 dX0_init_31 (by decide) ?_
  refine lv_istore_n (lv' := [(1, .int 0), (0, .ref (ad 104))]) X.1 X.2.1 dX0_init_32 rfl hl (by decide) rfl (fun ls hl => ?_)
  refine lv_iload_n X.1 X.2.1 dX0_init_33 rfl (lv_at hl 0 rfl) ?_
  refine lv_bipush (v := 6) X.1 X.2.1 dX0_init_34 (by decide) ?_
  refine zr_icmp_ge (a := 0) (b := 6) (tgt := 52) X dX0_init_36 (by decide) (by decide) (by decide) (fun c9 => absurd c9 (by decide)) (fun _ => ?_)
  refine lv_aload_n X.1 X.2.1 dX0_init_39 rfl (lv_at hl 1 rfl) ?_
  refine zr_get (r := 104) (ss := [some (some 112), some (some 113), some (some 114)]) (v := .ref (ad_7 112)) X hW fs_X0_9_0 dX0_init_40 rfl ha_9 rfl rfl ?_
  refine lv_iload_n X.1 X.2.1 dX0_init_43 rfl (lv_at hl 0 rfl) ?_
  refine lv_iconst (v := (-1)) X.1 X.2.1 dX0_init_44 (by decide) ?_
  refine zr_iast (r := 112) X hW dX0_init_45 rfl rfl rfl (zi_vp (by decide)) (fun H locs hW => ?_)
  obtain ⟨g_10, hg_10⟩ : ∃ z : zm_T, z = zm_w g_8 112 0 ((-1)) := ⟨_, rfl⟩
  change zw_St Y N0 _ _ (zm_w g_8 112 0 ((-1))) s H locs at hW
  rw [← hg_10] at hW
  refine lv_iinc (v := 1) (lv' := [(1, .int 1), (0, .ref (ad 104))]) X.1 X.2.1 dX0_init_46 hl (k := 0) rfl (by decide) (by decide) rfl (fun ls hl => ?_)
  refine lv_goto (tgt := 33) X.1 X.2.1 dX0_init_49 (by decide) ?_
  refine lv_iload_n X.1 X.2.1 dX0_init_33 rfl (lv_at hl 0 rfl) ?_
  refine lv_bipush (v := 6) X.1 X.2.1 dX0_init_34 (by decide) ?_
  refine zr_icmp_ge (a := 1) (b := 6) (tgt := 52) X dX0_init_36 (by decide) (by decide) (by decide) (fun c9 => absurd c9 (by decide)) (fun _ => ?_)
  refine lv_aload_n X.1 X.2.1 dX0_init_39 rfl (lv_at hl 1 rfl) ?_
  refine zr_get (r := 104) (ss := [some (some 112), some (some 113), some (some 114)]) (v := .ref (ad_7 112)) X hW fs_X0_9_0 dX0_init_40 rfl ha_9 rfl rfl ?_
  refine lv_iload_n X.1 X.2.1 dX0_init_43 rfl (lv_at hl 0 rfl) ?_
  refine lv_iconst (v := (-1)) X.1 X.2.1 dX0_init_44 (by decide) ?_
  refine zr_iast (r := 112) X hW dX0_init_45 rfl rfl rfl (zi_vp (by decide)) (fun H locs hW => ?_)
  obtain ⟨g_11, hg_11⟩ : ∃ z : zm_T, z = zm_w g_10 112 1 ((-1)) := ⟨_, rfl⟩
  change zw_St Y N0 _ _ (zm_w g_10 112 1 ((-1))) s H locs at hW
  rw [← hg_11] at hW
  refine lv_iinc (v := 2) (lv' := [(1, .int 2), (0, .ref (ad 104))]) X.1 X.2.1 dX0_init_46 hl (k := 0) rfl (by decide) (by decide) rfl (fun ls hl => ?_)
  refine lv_goto (tgt := 33) X.1 X.2.1 dX0_init_49 (by decide) ?_
  refine lv_iload_n X.1 X.2.1 dX0_init_33 rfl (lv_at hl 0 rfl) ?_
  refine lv_bipush (v := 6) X.1 X.2.1 dX0_init_34 (by decide) ?_
  refine zr_icmp_ge (a := 2) (b := 6) (tgt := 52) X dX0_init_36 (by decide) (by decide) (by decide) (fun c9 => absurd c9 (by decide)) (fun _ => ?_)
  refine lv_aload_n X.1 X.2.1 dX0_init_39 rfl (lv_at hl 1 rfl) ?_
  refine zr_get (r := 104) (ss := [some (some 112), some (some 113), some (some 114)]) (v := .ref (ad_7 112)) X hW fs_X0_9_0 dX0_init_40 rfl ha_9 rfl rfl ?_
  refine lv_iload_n X.1 X.2.1 dX0_init_43 rfl (lv_at hl 0 rfl) ?_
  refine lv_iconst (v := (-1)) X.1 X.2.1 dX0_init_44 (by decide) ?_
  refine zr_iast (r := 112) X hW dX0_init_45 rfl rfl rfl (zi_vp (by decide)) (fun H locs hW => ?_)
  obtain ⟨g_12, hg_12⟩ : ∃ z : zm_T, z = zm_w g_11 112 2 ((-1)) := ⟨_, rfl⟩
  change zw_St Y N0 _ _ (zm_w g_11 112 2 ((-1))) s H locs at hW
  rw [← hg_12] at hW
  refine lv_iinc (v := 3) (lv' := [(1, .int 3), (0, .ref (ad 104))]) X.1 X.2.1 dX0_init_46 hl (k := 0) rfl (by decide) (by decide) rfl (fun ls hl => ?_)
  refine lv_goto (tgt := 33) X.1 X.2.1 dX0_init_49 (by decide) ?_
  refine lv_iload_n X.1 X.2.1 dX0_init_33 rfl (lv_at hl 0 rfl) ?_
  refine lv_bipush (v := 6) X.1 X.2.1 dX0_init_34 (by decide) ?_
  refine zr_icmp_ge (a := 3) (b := 6) (tgt := 52) X dX0_init_36 (by decide) (by decide) (by decide) (fun c9 => absurd c9 (by decide)) (fun _ => ?_)
  refine lv_aload_n X.1 X.2.1 dX0_init_39 rfl (lv_at hl 1 rfl) ?_
  refine zr_get (r := 104) (ss := [some (some 112), some (some 113), some (some 114)]) (v := .ref (ad_7 112)) X hW fs_X0_9_0 dX0_init_40 rfl ha_9 rfl rfl ?_
  refine lv_iload_n X.1 X.2.1 dX0_init_43 rfl (lv_at hl 0 rfl) ?_
  refine lv_iconst (v := (-1)) X.1 X.2.1 dX0_init_44 (by decide) ?_
  refine zr_iast (r := 112) X hW dX0_init_45 rfl rfl rfl (zi_vp (by decide)) (fun H locs hW => ?_)
  obtain ⟨g_13, hg_13⟩ : ∃ z : zm_T, z = zm_w g_12 112 3 ((-1)) := ⟨_, rfl⟩
  change zw_St Y N0 _ _ (zm_w g_12 112 3 ((-1))) s H locs at hW
  rw [← hg_13] at hW
  refine lv_iinc (v := 4) (lv' := [(1, .int 4), (0, .ref (ad 104))]) X.1 X.2.1 dX0_init_46 hl (k := 0) rfl (by decide) (by decide) rfl (fun ls hl => ?_)
  refine lv_goto (tgt := 33) X.1 X.2.1 dX0_init_49 (by decide) ?_
  refine lv_iload_n X.1 X.2.1 dX0_init_33 rfl (lv_at hl 0 rfl) ?_
  refine lv_bipush (v := 6) X.1 X.2.1 dX0_init_34 (by decide) ?_
  refine zr_icmp_ge (a := 4) (b := 6) (tgt := 52) X dX0_init_36 (by decide) (by decide) (by decide) (fun c9 => absurd c9 (by decide)) (fun _ => ?_)
  refine lv_aload_n X.1 X.2.1 dX0_init_39 rfl (lv_at hl 1 rfl) ?_
  refine zr_get (r := 104) (ss := [some (some 112), some (some 113), some (some 114)]) (v := .ref (ad_7 112)) X hW fs_X0_9_0 dX0_init_40 rfl ha_9 rfl rfl ?_
  refine lv_iload_n X.1 X.2.1 dX0_init_43 rfl (lv_at hl 0 rfl) ?_
  refine lv_iconst (v := (-1)) X.1 X.2.1 dX0_init_44 (by decide) ?_
  refine zr_iast (r := 112) X hW dX0_init_45 rfl rfl rfl (zi_vp (by decide)) (fun H locs hW => ?_)
  obtain ⟨g_14, hg_14⟩ : ∃ z : zm_T, z = zm_w g_13 112 4 ((-1)) := ⟨_, rfl⟩
  change zw_St Y N0 _ _ (zm_w g_13 112 4 ((-1))) s H locs at hW
  rw [← hg_14] at hW
  refine lv_iinc (v := 5) (lv' := [(1, .int 5), (0, .ref (ad 104))]) X.1 X.2.1 dX0_init_46 hl (k := 0) rfl (by decide) (by decide) rfl (fun ls hl => ?_)
  refine lv_goto (tgt := 33) X.1 X.2.1 dX0_init_49 (by decide) ?_
  refine lv_iload_n X.1 X.2.1 dX0_init_33 rfl (lv_at hl 0 rfl) ?_
  refine lv_bipush (v := 6) X.1 X.2.1 dX0_init_34 (by decide) ?_
  refine zr_icmp_ge (a := 5) (b := 6) (tgt := 52) X dX0_init_36 (by decide) (by decide) (by decide) (fun c9 => absurd c9 (by decide)) (fun _ => ?_)
  refine lv_aload_n X.1 X.2.1 dX0_init_39 rfl (lv_at hl 1 rfl) ?_
  refine zr_get (r := 104) (ss := [some (some 112), some (some 113), some (some 114)]) (v := .ref (ad_7 112)) X hW fs_X0_9_0 dX0_init_40 rfl ha_9 rfl rfl ?_
  refine lv_iload_n X.1 X.2.1 dX0_init_43 rfl (lv_at hl 0 rfl) ?_
  refine lv_iconst (v := (-1)) X.1 X.2.1 dX0_init_44 (by decide) ?_
  refine zr_iast (r := 112) X hW dX0_init_45 rfl rfl rfl (zi_vp (by decide)) (fun H locs hW => ?_)
  obtain ⟨g_15, hg_15⟩ : ∃ z : zm_T, z = zm_w g_14 112 5 ((-1)) := ⟨_, rfl⟩
  change zw_St Y N0 _ _ (zm_w g_14 112 5 ((-1))) s H locs at hW
  rw [← hg_15] at hW
  refine lv_iinc (v := 6) (lv' := [(1, .int 6), (0, .ref (ad 104))]) X.1 X.2.1 dX0_init_46 hl (k := 0) rfl (by decide) (by decide) rfl (fun ls hl => ?_)
  refine lv_goto (tgt := 33) X.1 X.2.1 dX0_init_49 (by decide) ?_
  refine lv_iload_n X.1 X.2.1 dX0_init_33 rfl (lv_at hl 0 rfl) ?_
  refine lv_bipush (v := 6) X.1 X.2.1 dX0_init_34 (by decide) ?_
  refine zr_icmp_ge (a := 6) (b := 6) (tgt := 52) X dX0_init_36 (by decide) (by decide) (by decide) (fun _ => ?_) (fun c9 => absurd c9 (by decide))
  exact zr_vret X hW dX0_init_52 (Nat.le_of_ble_eq_true rfl) (Nat.le_of_ble_eq_true rfl) ⟨rfl, fun r h => ((had_7 r (by omega) (by omega)).trans ((had_4 r (by omega)).trans (had_1 r (by omega)))), rfl, by rw [hg_15, hg_14, hg_13, hg_12, hg_11, hg_10, hg_8, hg_5, hg_2]⟩
