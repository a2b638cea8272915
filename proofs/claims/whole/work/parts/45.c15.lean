set_option maxHeartbeats 4000000 in
set_option maxRecDepth 100000 in
theorem c_X9_forgedSeal_1 (l : Launch) (Y : zw_Y) (N0 : Nat) (ad : Nat → Nat) (sh : Nat → Option zw_Sh) (g : zm_T) (hS0 : zc_S sh) (n : Nat) (hf1 : sh (200 + 2 * n) = none) (key cn a b : Int32) : zw_Met l Y N0 yX9_forgedSeal cX9_forgedSeal 5 (some (.object "TicketRealm$Seal")) 3 67 1 3 ad sh g [.int key, .int 1, .int cn, .int a, .int b] (fun v ad' sh' g' => v = some (.ref (ad' (200 + 2 * n))) ∧ (∀ r, r ≠ 200 + 2 * n → ad' r = ad r) ∧ sh' = va_up sh (200 + 2 * n) (some (.inl (5, [none, none, none]))) ∧ g' = zm_w (zm_w (zm_w (va_up g (200 + 2 * n) (fun _ => 0)) (200 + 2 * n) 0 key) (200 + 2 * n) 1 cn) (200 + 2 * n) 2 b) := by
  refine zw_meth (by decide) (Nat.le_of_ble_eq_true rfl) ?_
  intro p e s m below meth c ls X hnm hl hW
  have hl : lv_has ls 5 [(0, .int key), (1, .int 1), (2, .int cn), (3, .int a), (4, .int b)] := hl
  have hS := hS0
  refine lv_iload_n X.1 X.2.1 dX9_forgedSeal_0 rfl (lv_at hl 1 rfl) ?_
  refine lv_tableIn (off := 27) (tgt := 28) X.1 X.2.1 dX9_forgedSeal_1 (by decide) (by decide) rfl (by decide) ?_
  refine zr_new (ss := [none, none, none]) X hW cs_X5 ns_X9_126 dX9_forgedSeal_28 ds_X5 (by intro r h; simp at h) (200 + 2 * n) hf1 (Nat.le_of_ble_eq_true rfl) (Nat.le_of_ble_eq_true rfl) (fun ad_2 H had_2 hW => ?_)
  obtain ⟨sh_3, hsh_3⟩ : ∃ z : Nat → Option zw_Sh, z = va_up sh (200 + 2 * n) (some (.inl (5, [none, none, none]))) := ⟨_, rfl⟩
  obtain ⟨g_4, hg_4⟩ : ∃ z : zm_T, z = va_up g (200 + 2 * n) (fun _ => 0) := ⟨_, rfl⟩
  rw [← hsh_3, ← hg_4] at hW
  have hS : zc_S sh_3 := by rw [hsh_3]; exact zc_S200 (by omega) hS
  refine lv_dup X.1 X.2.1 dX9_forgedSeal_31 rfl ?_
  refine lv_iload_n X.1 X.2.1 dX9_forgedSeal_32 rfl (lv_at hl 0 rfl) ?_
  refine lv_iload_n X.1 X.2.1 dX9_forgedSeal_33 rfl (lv_at hl 2 rfl) ?_
  refine lv_iload X.1 X.2.1 dX9_forgedSeal_34 (lv_at hl 4 rfl) ?_
  refine zr_callI (As := [.int key, .int cn, .int b]) (rest := [.ref (ad_2 (200 + 2 * n))]) (b := ad_2 (200 + 2 * n)) X hW hl.1 md_X5_init ms_X9_128 rfl dX9_forgedSeal_36 rfl rfl (Nat.le_of_ble_eq_true rfl) ⟨Nat.le_of_ble_eq_true rfl, Nat.le_of_ble_eq_true rfl⟩ ⟨Nat.le_of_ble_eq_true rfl, Nat.le_of_ble_eq_true rfl⟩ (c_X5_init l Y N0 ad_2 sh_3 g_4 ((200 + 2 * n)) (show sh_3 (200 + 2 * n) = some (.inl (5, [none, none, none])) from (by rw [hsh_3]; exact va_up_self _ _ _)) key cn b) (fun v9 ad9 sh9 g9 H locs hp hW => ?_)
  obtain ⟨rfl, rfl, rfl, rfl⟩ := hp
  obtain ⟨g_8, hg_8⟩ : ∃ z : zm_T, z = zm_w g_4 (200 + 2 * n) 0 key := ⟨_, rfl⟩
  obtain ⟨g_9, hg_9⟩ : ∃ z : zm_T, z = zm_w g_8 (200 + 2 * n) 1 cn := ⟨_, rfl⟩
  obtain ⟨g_10, hg_10⟩ : ∃ z : zm_T, z = zm_w g_9 (200 + 2 * n) 2 b := ⟨_, rfl⟩
  rw [← hg_8, ← hg_9, ← hg_10] at hW
  exact zr_aret X hW dX9_forgedSeal_39 (Nat.le_of_ble_eq_true rfl) (Nat.le_of_ble_eq_true rfl) (Or.inr ⟨_, rfl⟩) ⟨rfl, fun r h1 => had_2 r (by omega), by rw [hsh_3], by rw [hg_10, hg_9, hg_8, hg_4]⟩

set_option maxHeartbeats 4000000 in
set_option maxRecDepth 100000 in
theorem c_X9_forgedSeal_2 (l : Launch) (Y : zw_Y) (N0 : Nat) (ad : Nat → Nat) (sh : Nat → Option zw_Sh) (g : zm_T) (hS0 : zc_S sh) (n : Nat) (hf1 : sh (200 + 2 * n) = none) (key cn a b : Int32) : zw_Met l Y N0 yX9_forgedSeal cX9_forgedSeal 5 (some (.object "TicketRealm$Seal")) 3 67 1 6 ad sh g [.int key, .int 2, .int cn, .int a, .int b] (fun v ad' sh' g' => v = some (.ref (ad' (200 + 2 * n))) ∧ (∀ r, r ≠ 200 + 2 * n → ad' r = ad r) ∧ sh' = va_up sh (200 + 2 * n) (some (.inl (6, [none, none, none, none, none, none]))) ∧ g' = zm_w (zm_w (zm_w (zm_w (zm_w (zm_w (va_up g (200 + 2 * n) (fun _ => 0)) (200 + 2 * n) 0 key) (200 + 2 * n) 1 cn) (200 + 2 * n) 2 a) (200 + 2 * n) 3 0) (200 + 2 * n) 4 b) (200 + 2 * n) 5 b) := by
  refine zw_meth (by decide) (Nat.le_of_ble_eq_true rfl) ?_
  intro p e s m below meth c ls X hnm hl hW
  have hl : lv_has ls 5 [(0, .int key), (1, .int 2), (2, .int cn), (3, .int a), (4, .int b)] := hl
  have hS := hS0
  refine lv_iload_n X.1 X.2.1 dX9_forgedSeal_0 rfl (lv_at hl 1 rfl) ?_
  refine lv_tableIn (off := 39) (tgt := 40) X.1 X.2.1 dX9_forgedSeal_1 (by decide) (by decide) rfl (by decide) ?_
  refine zr_new (ss := [none, none, none, none, none, none]) X hW cs_X7 ns_X9_221 dX9_forgedSeal_40 ds_X7 (by intro r h; simp at h) (200 + 2 * n) hf1 (Nat.le_of_ble_eq_true rfl) (Nat.le_of_ble_eq_true rfl) (fun ad_2 H had_2 hW => ?_)
  obtain ⟨sh_3, hsh_3⟩ : ∃ z : Nat → Option zw_Sh, z = va_up sh (200 + 2 * n) (some (.inl (6, [none, none, none, none, none, none]))) := ⟨_, rfl⟩
  obtain ⟨g_4, hg_4⟩ : ∃ z : zm_T, z = va_up g (200 + 2 * n) (fun _ => 0) := ⟨_, rfl⟩
  rw [← hsh_3, ← hg_4] at hW
  have hS : zc_S sh_3 := by rw [hsh_3]; exact zc_S200 (by omega) hS
  refine lv_dup X.1 X.2.1 dX9_forgedSeal_43 rfl ?_
  refine lv_iload_n X.1 X.2.1 dX9_forgedSeal_44 rfl (lv_at hl 0 rfl) ?_
  refine lv_iload_n X.1 X.2.1 dX9_forgedSeal_45 rfl (lv_at hl 2 rfl) ?_
  refine lv_iload_n X.1 X.2.1 dX9_forgedSeal_46 rfl (lv_at hl 3 rfl) ?_
  refine lv_iconst (v := 0) X.1 X.2.1 dX9_forgedSeal_47 (by decide) ?_
  refine lv_iload X.1 X.2.1 dX9_forgedSeal_48 (lv_at hl 4 rfl) ?_
  refine lv_iload X.1 X.2.1 dX9_forgedSeal_50 (lv_at hl 4 rfl) ?_
  refine zr_callI (As := [.int key, .int cn, .int a, .int 0, .int b, .int b]) (rest := [.ref (ad_2 (200 + 2 * n))]) (b := ad_2 (200 + 2 * n)) X hW hl.1 md_X7_init ms_X9_313 rfl dX9_forgedSeal_52 rfl rfl (Nat.le_of_ble_eq_true rfl) ⟨Nat.le_of_ble_eq_true rfl, Nat.le_of_ble_eq_true rfl⟩ ⟨Nat.le_of_ble_eq_true rfl, Nat.le_of_ble_eq_true rfl⟩ (c_X7_init l Y N0 ad_2 sh_3 g_4 ((200 + 2 * n)) (show sh_3 (200 + 2 * n) = some (.inl (6, [none, none, none, none, none, none])) from (by rw [hsh_3]; exact va_up_self _ _ _)) key cn a 0 b b) (fun v9 ad9 sh9 g9 H locs hp hW => ?_)
  obtain ⟨rfl, rfl, rfl, rfl⟩ := hp
  obtain ⟨g_11, hg_11⟩ : ∃ z : zm_T, z = zm_w g_4 (200 + 2 * n) 0 key := ⟨_, rfl⟩
  obtain ⟨g_12, hg_12⟩ : ∃ z : zm_T, z = zm_w g_11 (200 + 2 * n) 1 cn := ⟨_, rfl⟩
  obtain ⟨g_13, hg_13⟩ : ∃ z : zm_T, z = zm_w g_12 (200 + 2 * n) 2 a := ⟨_, rfl⟩
  obtain ⟨g_14, hg_14⟩ : ∃ z : zm_T, z = zm_w g_13 (200 + 2 * n) 3 0 := ⟨_, rfl⟩
  obtain ⟨g_15, hg_15⟩ : ∃ z : zm_T, z = zm_w g_14 (200 + 2 * n) 4 b := ⟨_, rfl⟩
  obtain ⟨g_16, hg_16⟩ : ∃ z : zm_T, z = zm_w g_15 (200 + 2 * n) 5 b := ⟨_, rfl⟩
  rw [← hg_11, ← hg_12, ← hg_13, ← hg_14, ← hg_15, ← hg_16] at hW
  exact zr_aret X hW dX9_forgedSeal_55 (Nat.le_of_ble_eq_true rfl) (Nat.le_of_ble_eq_true rfl) (Or.inr ⟨_, rfl⟩) ⟨rfl, fun r h1 => had_2 r (by omega), by rw [hsh_3], by rw [hg_16, hg_15, hg_14, hg_13, hg_12, hg_11, hg_4]⟩

set_option maxHeartbeats 4000000 in
set_option maxRecDepth 100000 in
theorem c_X9_forgedSeal_3 (l : Launch) (Y : zw_Y) (N0 : Nat) (ad : Nat → Nat) (sh : Nat → Option zw_Sh) (g : zm_T) (hS0 : zc_S sh) (n : Nat) (hf1 : sh (200 + 2 * n) = none) (key cn a b : Int32) : zw_Met l Y N0 yX9_forgedSeal cX9_forgedSeal 5 (some (.object "TicketRealm$Seal")) 3 67 1 5 ad sh g [.int key, .int 3, .int cn, .int a, .int b] (fun v ad' sh' g' => v = some (.ref (ad' (200 + 2 * n))) ∧ (∀ r, r ≠ 200 + 2 * n → ad' r = ad r) ∧ sh' = va_up sh (200 + 2 * n) (some (.inl (4, [none, none, none, none, none]))) ∧ g' = zm_w (zm_w (zm_w (zm_w (zm_w (va_up g (200 + 2 * n) (fun _ => 0)) (200 + 2 * n) 0 key) (200 + 2 * n) 1 a) (200 + 2 * n) 2 b) (200 + 2 * n) 3 1) (200 + 2 * n) 4 1000000) := by
  refine zw_meth (by decide) (Nat.le_of_ble_eq_true rfl) ?_
  intro p e s m below meth c ls X hnm hl hW
  have hl : lv_has ls 5 [(0, .int key), (1, .int 3), (2, .int cn), (3, .int a), (4, .int b)] := hl
  have hS := hS0
  refine lv_iload_n X.1 X.2.1 dX9_forgedSeal_0 rfl (lv_at hl 1 rfl) ?_
  refine lv_tableIn (off := 55) (tgt := 56) X.1 X.2.1 dX9_forgedSeal_1 (by decide) (by decide) rfl (by decide) ?_
  refine zr_new (ss := [none, none, none, none, none]) X hW cs_X4 ns_X9_167 dX9_forgedSeal_56 ds_X4 (by intro r h; simp at h) (200 + 2 * n) hf1 (Nat.le_of_ble_eq_true rfl) (Nat.le_of_ble_eq_true rfl) (fun ad_2 H had_2 hW => ?_)
  obtain ⟨sh_3, hsh_3⟩ : ∃ z : Nat → Option zw_Sh, z = va_up sh (200 + 2 * n) (some (.inl (4, [none, none, none, none, none]))) := ⟨_, rfl⟩
  obtain ⟨g_4, hg_4⟩ : ∃ z : zm_T, z = va_up g (200 + 2 * n) (fun _ => 0) := ⟨_, rfl⟩
  rw [← hsh_3, ← hg_4] at hW
  have hS : zc_S sh_3 := by rw [hsh_3]; exact zc_S200 (by omega) hS
  refine lv_dup X.1 X.2.1 dX9_forgedSeal_59 rfl ?_
  refine lv_iload_n X.1 X.2.1 dX9_forgedSeal_60 rfl (lv_at hl 0 rfl) ?_
  refine lv_iload_n X.1 X.2.1 dX9_forgedSeal_61 rfl (lv_at hl 3 rfl) ?_
  refine lv_iload X.1 X.2.1 dX9_forgedSeal_62 (lv_at hl 4 rfl) ?_
  refine lv_iconst (v := 1) X.1 X.2.1 dX9_forgedSeal_64 (by decide) ?_
  refine lv_ldcw (v := 1000000) X.1 X.2.1 X.2.2.2.1 (X.2.2.2.2.1 _ (zt_in (zt_t3 26 rfl) rfl)) dX9_forgedSeal_65 ?_
  refine zr_callI (As := [.int key, .int a, .int b, .int 1, .int 1000000]) (rest := [.ref (ad_2 (200 + 2 * n))]) (b := ad_2 (200 + 2 * n)) X hW hl.1 md_X4_init ms_X9_316 rfl dX9_forgedSeal_68 rfl rfl (Nat.le_of_ble_eq_true rfl) ⟨Nat.le_of_ble_eq_true rfl, Nat.le_of_ble_eq_true rfl⟩ ⟨Nat.le_of_ble_eq_true rfl, Nat.le_of_ble_eq_true rfl⟩ (c_X4_init l Y N0 ad_2 sh_3 g_4 ((200 + 2 * n)) (show sh_3 (200 + 2 * n) = some (.inl (4, [none, none, none, none, none])) from (by rw [hsh_3]; exact va_up_self _ _ _)) key a b 1 1000000) (fun v9 ad9 sh9 g9 H locs hp hW => ?_)
  obtain ⟨rfl, rfl, rfl, rfl⟩ := hp
  obtain ⟨g_10, hg_10⟩ : ∃ z : zm_T, z = zm_w g_4 (200 + 2 * n) 0 key := ⟨_, rfl⟩
  obtain ⟨g_11, hg_11⟩ : ∃ z : zm_T, z = zm_w g_10 (200 + 2 * n) 1 a := ⟨_, rfl⟩
  obtain ⟨g_12, hg_12⟩ : ∃ z : zm_T, z = zm_w g_11 (200 + 2 * n) 2 b := ⟨_, rfl⟩
  obtain ⟨g_13, hg_13⟩ : ∃ z : zm_T, z = zm_w g_12 (200 + 2 * n) 3 1 := ⟨_, rfl⟩
  obtain ⟨g_14, hg_14⟩ : ∃ z : zm_T, z = zm_w g_13 (200 + 2 * n) 4 1000000 := ⟨_, rfl⟩
  rw [← hg_10, ← hg_11, ← hg_12, ← hg_13, ← hg_14] at hW
  exact zr_aret X hW dX9_forgedSeal_71 (Nat.le_of_ble_eq_true rfl) (Nat.le_of_ble_eq_true rfl) (Or.inr ⟨_, rfl⟩) ⟨rfl, fun r h1 => had_2 r (by omega), by rw [hsh_3], by rw [hg_14, hg_13, hg_12, hg_11, hg_10, hg_4]⟩

set_option maxHeartbeats 4000000 in
set_option maxRecDepth 100000 in
theorem c_X9_forgedSeal_4 (l : Launch) (Y : zw_Y) (N0 : Nat) (ad : Nat → Nat) (sh : Nat → Option zw_Sh) (g : zm_T) (hS0 : zc_S sh) (n : Nat) (hf1 : sh (200 + 2 * n) = none) (hf2 : sh (201 + 2 * n) = none) (key cn a b : Int32) : zw_Met l Y N0 yX9_forgedSeal cX9_forgedSeal 5 (some (.object "TicketRealm$Seal")) 3 67 2 8 ad sh g [.int key, .int 4, .int cn, .int a, .int b] (fun v ad' sh' g' => v = some (.ref (ad' (200 + 2 * n))) ∧ (∀ r, r ≠ 200 + 2 * n → r ≠ 201 + 2 * n → ad' r = ad r) ∧ sh' = va_up (va_up (va_up sh (200 + 2 * n) (some (.inl (1, [none, none, none, none, some none])))) (201 + 2 * n) (some (.inl (3, [none, none, none])))) (200 + 2 * n) (some (.inl (1, [none, none, none, none, some (some (201 + 2 * n))]))) ∧ g' = zm_w (zm_w (zm_w (zm_w (zm_w (zm_w (zm_w (va_up (va_up g (200 + 2 * n) (fun _ => 0)) (201 + 2 * n) (fun _ => 0)) (201 + 2 * n) 0 (a &&& 3)) (201 + 2 * n) 1 ((a >>> ((2 : Int32) &&& 31) &&& 3) - (a >>> ((2 : Int32) &&& 31) &&& 3) / 3 * 3)) (201 + 2 * n) 2 (a >>> ((4 : Int32) &&& 31))) (200 + 2 * n) 0 key) (200 + 2 * n) 1 cn) (200 + 2 * n) 2 b) (200 + 2 * n) 3 0) := by
  refine zw_meth (by decide) (Nat.le_of_ble_eq_true rfl) ?_
  intro p e s m below meth c ls X hnm hl hW
  have hl : lv_has ls 5 [(0, .int key), (1, .int 4), (2, .int cn), (3, .int a), (4, .int b)] := hl
  have hS := hS0
  refine lv_iload_n X.1 X.2.1 dX9_forgedSeal_0 rfl (lv_at hl 1 rfl) ?_
  refine lv_tableOut (tgt := 72) X.1 X.2.1 dX9_forgedSeal_1 (by decide) (by decide) ?_
  refine zr_new (ss := [none, none, none, none, some none]) X hW cs_X1 ns_X9_140 dX9_forgedSeal_72 ds_X1 (by intro r h; simp at h) (200 + 2 * n) hf1 (Nat.le_of_ble_eq_true rfl) (Nat.le_of_ble_eq_true rfl) (fun ad_2 H had_2 hW => ?_)
  obtain ⟨sh_3, hsh_3⟩ : ∃ z : Nat → Option zw_Sh, z = va_up sh (200 + 2 * n) (some (.inl (1, [none, none, none, none, some none]))) := ⟨_, rfl⟩
  obtain ⟨g_4, hg_4⟩ : ∃ z : zm_T, z = va_up g (200 + 2 * n) (fun _ => 0) := ⟨_, rfl⟩
  rw [← hsh_3, ← hg_4] at hW
  have hS : zc_S sh_3 := by rw [hsh_3]; exact zc_S200 (by omega) hS
  refine lv_dup X.1 X.2.1 dX9_forgedSeal_75 rfl ?_
  refine lv_iload_n X.1 X.2.1 dX9_forgedSeal_76 rfl (lv_at hl 0 rfl) ?_
  refine lv_iload_n X.1 X.2.1 dX9_forgedSeal_77 rfl (lv_at hl 2 rfl) ?_
  refine lv_iload X.1 X.2.1 dX9_forgedSeal_78 (lv_at hl 4 rfl) ?_
  refine lv_iconst (v := 0) X.1 X.2.1 dX9_forgedSeal_80 (by decide) ?_
  refine zr_new (ss := [none, none, none]) X hW cs_X3 ns_X9_145 dX9_forgedSeal_81 ds_X3 (by intro r h; simp at h) (201 + 2 * n) (show sh_3 (201 + 2 * n) = none from (by rw [hsh_3]; exact (va_up_ne _ _ (by omega)).trans hf2)) (Nat.le_of_ble_eq_true rfl) (Nat.le_of_ble_eq_true rfl) (fun ad_5 H had_5 hW => ?_)
  obtain ⟨sh_6, hsh_6⟩ : ∃ z : Nat → Option zw_Sh, z = va_up sh_3 (201 + 2 * n) (some (.inl (3, [none, none, none]))) := ⟨_, rfl⟩
  obtain ⟨g_7, hg_7⟩ : ∃ z : zm_T, z = va_up g_4 (201 + 2 * n) (fun _ => 0) := ⟨_, rfl⟩
  rw [← hsh_6, ← hg_7] at hW
  have hS : zc_S sh_6 := by rw [hsh_6]; exact zc_S200 (by omega) hS
  refine lv_dup X.1 X.2.1 dX9_forgedSeal_84 rfl ?_
  refine lv_iload_n X.1 X.2.1 dX9_forgedSeal_85 rfl (lv_at hl 3 rfl) ?_
  refine lv_iconst (v := 3) X.1 X.2.1 dX9_forgedSeal_86 (by decide) ?_
  refine lv_iand X.1 X.2.1 dX9_forgedSeal_87 ?_
  refine lv_iload_n X.1 X.2.1 dX9_forgedSeal_88 rfl (lv_at hl 3 rfl) ?_
  refine lv_iconst (v := 2) X.1 X.2.1 dX9_forgedSeal_89 (by decide) ?_
  refine lv_ishr X.1 X.2.1 dX9_forgedSeal_90 ?_
  refine lv_iconst (v := 3) X.1 X.2.1 dX9_forgedSeal_91 (by decide) ?_
  refine lv_iand X.1 X.2.1 dX9_forgedSeal_92 ?_
  refine lv_iconst (v := 3) X.1 X.2.1 dX9_forgedSeal_93 (by decide) ?_
  refine lv_irem X.1 X.2.1 dX9_forgedSeal_94 (by decide) ?_
  refine lv_iload_n X.1 X.2.1 dX9_forgedSeal_95 rfl (lv_at hl 3 rfl) ?_
  refine lv_iconst (v := 4) X.1 X.2.1 dX9_forgedSeal_96 (by decide) ?_
  refine lv_ishr X.1 X.2.1 dX9_forgedSeal_97 ?_
  refine zr_callI (As := [.int (a &&& 3), .int (((a >>> ((2 : Int32) &&& 31)) &&& 3) - ((a >>> ((2 : Int32) &&& 31)) &&& 3) / 3 * 3), .int (a >>> ((4 : Int32) &&& 31))]) (rest := [.ref (ad_5 (201 + 2 * n)), .int 0, .int b, .int cn, .int key, .ref (ad_2 (200 + 2 * n)), .ref (ad_2 (200 + 2 * n))]) (b := ad_5 (201 + 2 * n)) X hW hl.1 md_X3_init ms_X9_147 rfl dX9_forgedSeal_98 rfl rfl (Nat.le_of_ble_eq_true rfl) ⟨Nat.le_of_ble_eq_true rfl, Nat.le_of_ble_eq_true rfl⟩ ⟨Nat.le_of_ble_eq_true rfl, Nat.le_of_ble_eq_true rfl⟩ (c_X3_init l Y N0 ad_5 sh_6 g_7 ((201 + 2 * n)) (show sh_6 (201 + 2 * n) = some (.inl (3, [none, none, none])) from (by rw [hsh_6]; exact va_up_self _ _ _)) (a &&& 3) (((a >>> ((2 : Int32) &&& 31)) &&& 3) - ((a >>> ((2 : Int32) &&& 31)) &&& 3) / 3 * 3) (a >>> ((4 : Int32) &&& 31))) (fun v9 ad9 sh9 g9 H locs hp hW => ?_)
  obtain ⟨rfl, rfl, rfl, rfl⟩ := hp
  obtain ⟨g_11, hg_11⟩ : ∃ z : zm_T, z = zm_w g_7 (201 + 2 * n) 0 (a &&& 3) := ⟨_, rfl⟩
  obtain ⟨g_12, hg_12⟩ : ∃ z : zm_T, z = zm_w g_11 (201 + 2 * n) 1 (((a >>> ((2 : Int32) &&& 31)) &&& 3) - ((a >>> ((2 : Int32) &&& 31)) &&& 3) / 3 * 3) := ⟨_, rfl⟩
  obtain ⟨g_13, hg_13⟩ : ∃ z : zm_T, z = zm_w g_12 (201 + 2 * n) 2 (a >>> ((4 : Int32) &&& 31)) := ⟨_, rfl⟩
  rw [← hg_11, ← hg_12, ← hg_13] at hW
  refine zr_callI (As := [.int key, .int cn, .int b, .int 0, .ref (ad_5 (201 + 2 * n))]) (rest := [.ref (ad_2 (200 + 2 * n))]) (b := ad_5 (200 + 2 * n)) X hW hl.1 md_X1_init ms_X9_148 rfl dX9_forgedSeal_101 rfl (by rw [(had_5 ((200 + 2 * n)) (by omega))] <;> rfl) (Nat.le_of_ble_eq_true rfl) ⟨Nat.le_of_ble_eq_true rfl, Nat.le_of_ble_eq_true rfl⟩ ⟨Nat.le_of_ble_eq_true rfl, Nat.le_of_ble_eq_true rfl⟩ (c_X1_init l Y N0 ad_5 sh_6 g_13 ((200 + 2 * n)) ((201 + 2 * n)) (show sh_6 (200 + 2 * n) = some (.inl (1, [none, none, none, none, some none])) from (by rw [hsh_6]; exact (va_up_ne _ _ (by omega)).trans (show sh_3 (200 + 2 * n) = some (.inl (1, [none, none, none, none, some none])) from (by rw [hsh_3]; exact va_up_self _ _ _)))) (by rw [(show sh_6 (201 + 2 * n) = some (.inl (3, [none, none, none])) from (by rw [hsh_6]; exact va_up_self _ _ _))]; simp) key cn b 0) (fun v9 ad9 sh9 g9 H locs hp hW => ?_)
  obtain ⟨rfl, rfl, rfl, rfl⟩ := hp
  obtain ⟨g_18, hg_18⟩ : ∃ z : zm_T, z = zm_w g_13 (200 + 2 * n) 0 key := ⟨_, rfl⟩
  obtain ⟨g_19, hg_19⟩ : ∃ z : zm_T, z = zm_w g_18 (200 + 2 * n) 1 cn := ⟨_, rfl⟩
  obtain ⟨g_20, hg_20⟩ : ∃ z : zm_T, z = zm_w g_19 (200 + 2 * n) 2 b := ⟨_, rfl⟩
  obtain ⟨g_21, hg_21⟩ : ∃ z : zm_T, z = zm_w g_20 (200 + 2 * n) 3 0 := ⟨_, rfl⟩
  rw [← hg_18, ← hg_19, ← hg_20, ← hg_21] at hW
  obtain ⟨sh_22, hsh_22⟩ : ∃ z : Nat → Option zw_Sh, z = va_up sh_6 (200 + 2 * n) (some (.inl (1, [none, none, none, none, some (some (201 + 2 * n))]))) := ⟨_, rfl⟩
  rw [← hsh_22] at hW
  have hS : zc_S sh_22 := by rw [hsh_22]; exact zc_S200 (by omega) hS
  exact zr_aret X hW dX9_forgedSeal_104 (Nat.le_of_ble_eq_true rfl) (Nat.le_of_ble_eq_true rfl) (Or.inr ⟨_, rfl⟩) ⟨(by rw [(had_5 ((200 + 2 * n)) (by omega))]), fun r h1 h2 => (had_5 r (by omega)).trans (had_2 r (by omega)), by rw [hsh_22, hsh_6, hsh_3], by rw [hg_21, hg_20, hg_19, hg_18, hg_13, hg_12, hg_11, hg_7, hg_4]⟩

set_option maxHeartbeats 4000000 in
set_option maxRecDepth 100000 in
theorem c_X9_forge (l : Launch) (Y : zw_Y) (N0 : Nat) (ad : Nat → Nat) (sh : Nat → Option zw_Sh) (g u : zm_T) (hR : zc_R sh g u) (hI : zm_I u) (key k cn a b : Int32) : zw_Met l Y N0 yX9_forge cX9_forge 7 (some .int) 4 91 2 8 ad sh g [.ref (ad 100), .int key, .int k, .int cn, .int a, .int b] (zc_Po ad sh g (sp_forge key k cn a b u)) := by
  refine zw_meth (by decide) (Nat.le_of_ble_eq_true rfl) ?_
  intro p e s m below meth c ls X hnm hl hW
  have hl : lv_has ls 7 [(0, .ref (ad 100)), (1, .int key), (2, .int k), (3, .int cn), (4, .int a), (5, .int b)] := hl
  have hS := hR.1
  have hN0 := hR.2.1
  have hN := hR.2.1
  have hB : ∀ i : Nat, i < 12 → -1 ≤ (u 5 i).toInt := fun i hi => (zI_bk hI i hi).1
  have hT : ∀ i : Nat, i < 12 → -1 ≤ (u 23 i).toInt := fun i hi => (zI_tk hI i hi).1
  have hse := zI_se hI
  have hke := zI_ke hI
  refine lv_iload_n X.1 X.2.1 dX9_forge_0 rfl (lv_at hl 2 rfl) ?_
  refine lv_iconst (v := 1) X.1 X.2.1 dX9_forge_1 (by decide) ?_
  refine zr_icmp_lt (a := (k).toInt) (b := 1) (tgt := 22) X dX9_forge_2 (by decide) rfl (by decide) (fun c_1 => ?_) (fun c_1 => ?_)
  · refine lv_iconst (v := (-1)) X.1 X.2.1 dX9_forge_22 (by decide) ?_
    have e9 : sp_forge key k cn a b u = ((-1), u) := (by unfold sp_forge; (repeat (first | refine (if_pos (by omega)).trans ?_ | refine (if_neg (by omega)).trans ?_)); rfl)
    exact zr_iret X hW dX9_forge_23 (Nat.le_of_ble_eq_true rfl) (Nat.le_of_ble_eq_true rfl) ⟨by rw [e9], by rw [e9]; exact hR, zc_fr0⟩
  · refine lv_iload_n X.1 X.2.1 dX9_forge_5 rfl (lv_at hl 2 rfl) ?_
    refine lv_iconst (v := 4) X.1 X.2.1 dX9_forge_6 (by decide) ?_
    refine zr_icmp_gt (a := (k).toInt) (b := 4) (tgt := 22) X dX9_forge_7 (by decide) rfl (by decide) (fun c_2 => ?_) (fun c_2 => ?_)
    · refine lv_iconst (v := (-1)) X.1 X.2.1 dX9_forge_22 (by decide) ?_
      have e9 : sp_forge key k cn a b u = ((-1), u) := (by unfold sp_forge; (repeat (first | refine (if_pos (by omega)).trans ?_ | refine (if_neg (by omega)).trans ?_)); rfl)
      exact zr_iret X hW dX9_forge_23 (Nat.le_of_ble_eq_true rfl) (Nat.le_of_ble_eq_true rfl) ⟨by rw [e9], by rw [e9]; exact hR, zc_fr0⟩
    · refine lv_iload_n X.1 X.2.1 dX9_forge_10 rfl (lv_at hl 2 rfl) ?_
      refine lv_iconst (v := 3) X.1 X.2.1 dX9_forge_11 (by decide) ?_
      refine zr_icmp_eq (a := (k).toInt) (b := 3) (tgt := 24) X dX9_forge_12 (by decide) rfl (by decide) (fun c_3 => ?_) (fun c_3 => ?_)
      · refine lv_iload_n X.1 X.2.1 dX9_forge_24 rfl (lv_at hl 2 rfl) ?_
        refine lv_iconst (v := 2) X.1 X.2.1 dX9_forge_25 (by decide) ?_
        refine zr_icmp_eq (a := (k).toInt) (b := 2) (tgt := 34) X dX9_forge_26 (by decide) rfl (by decide) (fun c9 => absurd c9 (by omega)) (fun _ => ?_)
        refine lv_iload_n X.1 X.2.1 dX9_forge_29 rfl (lv_at hl 2 rfl) ?_
        refine lv_iconst (v := 3) X.1 X.2.1 dX9_forge_30 (by decide) ?_
        refine zr_icmp_ne (a := (k).toInt) (b := 3) (tgt := 38) X dX9_forge_31 (by decide) rfl (by decide) (fun c9 => absurd c9 (by omega)) (fun _ => ?_)
        refine lv_iconst (v := 1) X.1 X.2.1 dX9_forge_34 (by decide) ?_
        refine lv_goto (tgt := 39) X.1 X.2.1 dX9_forge_35 (by decide) ?_
        refine lv_istore (lv' := [(6, .int 1), (0, .ref (ad 100)), (1, .int key), (2, .int k), (3, .int cn), (4, .int a), (5, .int b)]) X.1 X.2.1 dX9_forge_39 hl (by decide) rfl (fun ls hl => ?_)
        refine lv_aload_n X.1 X.2.1 dX9_forge_41 rfl (lv_at hl 1 rfl) ?_
        refine lv_iload_n X.1 X.2.1 dX9_forge_42 rfl (lv_at hl 2 rfl) ?_
        refine zr_callV (As := [.int key]) (rest := []) X hW hl.1 md_X9_isStolen ms_X9_270 dX9_forge_43 (zc_s100 hS) rfl rfl rfl rfl (Nat.le_of_ble_eq_true rfl) ⟨Nat.le_of_ble_eq_true rfl, Nat.le_of_ble_eq_true rfl⟩ ⟨Nat.le_of_ble_eq_true rfl, Nat.le_of_ble_eq_true rfl⟩ (c_X9_isStolen l Y N0 ad sh g u hS hN hI key) (fun v9 ad9 sh9 g9 H locs hp hW => ?_)
        rcases hp with ⟨rfl, rfl, rfl, ⟨h_4, h9⟩ | ⟨h_4, h9⟩⟩
        · subst h9
          have h_4 : zs_st u key := h_4
          refine zr_if_eq (a := 1) (tgt := 63) X dX9_forge_46 (by decide) (by decide) (fun c9 => absurd c9 (by decide)) (fun _ => ?_)
          refine lv_iload X.1 X.2.1 dX9_forge_49 (lv_at hl 0 rfl) ?_
          refine zr_if_eq (a := 1) (tgt := 66) X dX9_forge_51 (by decide) (by decide) (fun c9 => absurd c9 (by decide)) (fun _ => ?_)
          refine lv_aload_n X.1 X.2.1 dX9_forge_54 rfl (lv_at hl 1 rfl) ?_
          refine lv_iload X.1 X.2.1 dX9_forge_55 (lv_at hl 5 rfl) ?_
          refine zr_callV (As := [.int a]) (rest := []) X hW hl.1 md_X9_isStolen ms_X9_270 dX9_forge_57 (zc_s100 hS) rfl rfl rfl rfl (Nat.le_of_ble_eq_true rfl) ⟨Nat.le_of_ble_eq_true rfl, Nat.le_of_ble_eq_true rfl⟩ ⟨Nat.le_of_ble_eq_true rfl, Nat.le_of_ble_eq_true rfl⟩ (c_X9_isStolen l Y N0 ad sh g u hS hN hI a) (fun v9 ad9 sh9 g9 H locs hp hW => ?_)
          rcases hp with ⟨rfl, rfl, rfl, ⟨h_5, h9⟩ | ⟨h_5, h9⟩⟩
          · subst h9
            have h_5 : zs_st u a := h_5
            refine zr_if_ne (a := 1) (tgt := 66) X dX9_forge_60 (by decide) (by decide) (fun _ => ?_) (fun c9 => absurd c9 (by decide))
            refine lv_aload_n X.1 X.2.1 dX9_forge_66 rfl (lv_at hl 1 rfl) ?_
            refine lv_iconst (v := 0) X.1 X.2.1 dX9_forge_67 (by decide) ?_
            refine lv_iconst (v := 1) X.1 X.2.1 dX9_forge_68 (by decide) ?_
            refine zr_callV (As := [.int 0, .int 1]) (rest := []) X hW hl.1 md_X9_hasRoom ms_X9_76 dX9_forge_69 (zc_s100 hS) rfl rfl rfl rfl (Nat.le_of_ble_eq_true rfl) ⟨Nat.le_of_ble_eq_true rfl, Nat.le_of_ble_eq_true rfl⟩ ⟨Nat.le_of_ble_eq_true rfl, Nat.le_of_ble_eq_true rfl⟩ (c_X9_hasRoom_01 l Y N0 ad sh g u hS hN hI) (fun v9 ad9 sh9 g9 H locs hp hW => ?_)
            rcases hp with ⟨rfl, rfl, rfl, ⟨h_6, h9⟩ | ⟨h_6, h9⟩⟩
            · subst h9
              have h_6 : (u 0 2).toInt + 0 ≤ 200 ∧ (u 0 8).toInt + 1 ≤ 150 := h_6
              refine zr_if_ne (a := 1) (tgt := 78) X dX9_forge_72 (by decide) (by decide) (fun _ => ?_) (fun c9 => absurd c9 (by decide))
              have h8 : 0 ≤ (u 0 8).toInt ∧ (u 0 8).toInt < 150 := by omega
              have hc9 : k.toInt = 3 := by omega
              have hsp : sp_forge key k cn a b u = (u 0 8, zs_mk u (zs_v 3 key (-1) a b 1 1000000 0 0 0)) := (by unfold sp_forge; (repeat (first | refine (if_pos (by omega)).trans ?_ | refine (if_neg (by omega)).trans ?_)); exact congrArg (fun z => ((u 0 8, zs_mk u z) : Int32 × zm_T)) (by (repeat (first | refine (if_pos (by omega)).trans ?_ | refine (if_neg (by omega)).trans ?_)); rfl))
              have hc9 : k = 3 := zi_ext hc9
              subst hc9
              refine lv_aload_n X.1 X.2.1 dX9_forge_78 rfl (lv_at hl 1 rfl) ?_
              refine lv_iload_n X.1 X.2.1 dX9_forge_79 rfl (lv_at hl 2 rfl) ?_
              refine lv_iload_n X.1 X.2.1 dX9_forge_80 rfl (lv_at hl 3 rfl) ?_
              refine lv_iload_n X.1 X.2.1 dX9_forge_81 rfl (lv_at hl 4 rfl) ?_
              refine lv_iload X.1 X.2.1 dX9_forge_82 (lv_at hl 5 rfl) ?_
              refine lv_iload X.1 X.2.1 dX9_forge_84 (lv_at hl 6 rfl) ?_
              refine zr_callS (As := [.int key, .int 3, .int cn, .int a, .int b]) (rest := [.ref (ad 100)]) X hW hl.1 md_X9_forgedSeal ms_X9_276 dX9_forge_86 rfl rfl (Nat.le_of_ble_eq_true rfl) ⟨Nat.le_of_ble_eq_true rfl, Nat.le_of_ble_eq_true rfl⟩ ⟨Nat.le_of_ble_eq_true rfl, Nat.le_of_ble_eq_true rfl⟩ (c_X9_forgedSeal_3 l Y N0 ad sh g hS (zn (u 0 8)) (hR.2.2.2.2.2.2.1 (200 + 2 * zn (u 0 8)) (by omega)) key cn a b) (fun v9 ad9 sh9 g9 H locs hp hW => ?_)
              obtain ⟨rfl, had9, hsh9, hg9⟩ := hp
              obtain ⟨ad_7, rfl⟩ : ∃ z : Nat → Nat, z = ad9 := ⟨_, rfl⟩
              have had_7 : ∀ r : Nat, r ≠ (200 + 2 * zn (u 0 8)) → r ≠ (201 + 2 * zn (u 0 8)) → ad_7 r = ad r := fun r h1 h2 => had9 r h1
              obtain ⟨sh_8, hsh_8⟩ : ∃ z : Nat → Option zw_Sh, z = va_up sh (200 + 2 * zn (u 0 8)) (some (.inl (4, [none, none, none, none, none]))) := ⟨_, rfl⟩
              have hS : zc_S sh_8 := by rw [hsh_8]; exact zc_S200 (by omega) hS
              obtain ⟨g_9, hg_9⟩ : ∃ z : zm_T, z = va_up g (200 + 2 * zn (u 0 8)) (fun _ => 0) := ⟨_, rfl⟩
              have hN : zc_N g_9 u := by rw [hg_9]; exact zc_Nv hN (by omega)
              obtain ⟨g_10, hg_10⟩ : ∃ z : zm_T, z = zm_w g_9 (200 + 2 * zn (u 0 8)) 0 key := ⟨_, rfl⟩
              have hN : zc_N g_10 u := by rw [hg_10]; exact zc_Nc hN (zc_lm200 (by omega)) _
              obtain ⟨g_11, hg_11⟩ : ∃ z : zm_T, z = zm_w g_10 (200 + 2 * zn (u 0 8)) 1 a := ⟨_, rfl⟩
              have hN : zc_N g_11 u := by rw [hg_11]; exact zc_Nc hN (zc_lm200 (by omega)) _
              obtain ⟨g_12, hg_12⟩ : ∃ z : zm_T, z = zm_w g_11 (200 + 2 * zn (u 0 8)) 2 b := ⟨_, rfl⟩
              have hN : zc_N g_12 u := by rw [hg_12]; exact zc_Nc hN (zc_lm200 (by omega)) _
              obtain ⟨g_13, hg_13⟩ : ∃ z : zm_T, z = zm_w g_12 (200 + 2 * zn (u 0 8)) 3 1 := ⟨_, rfl⟩
              have hN : zc_N g_13 u := by rw [hg_13]; exact zc_Nc hN (zc_lm200 (by omega)) _
              obtain ⟨g_14, hg_14⟩ : ∃ z : zm_T, z = zm_w g_13 (200 + 2 * zn (u 0 8)) 4 1000000 := ⟨_, rfl⟩
              have hN : zc_N g_14 u := by rw [hg_14]; exact zc_Nc hN (zc_lm200 (by omega)) _
              rw [hsh9, hg9] at hW
              rw [← hsh_8, ← hg_9, ← hg_10, ← hg_11, ← hg_12, ← hg_13, ← hg_14] at hW
              refine zr_callV (As := [.ref (ad_7 (200 + 2 * zn (u 0 8)))]) (rest := []) X hW hl.1 md_X9_keep ms_X9_130 dX9_forge_89 (zc_s100 hS) rfl rfl rfl (by rw [(had_7 100 (by omega) (by omega))] <;> rfl) (Nat.le_of_ble_eq_true rfl) ⟨Nat.le_of_ble_eq_true rfl, Nat.le_of_ble_eq_true rfl⟩ ⟨Nat.le_of_ble_eq_true rfl, Nat.le_of_ble_eq_true rfl⟩ (c_X9_keep_4 l Y N0 ad_7 sh_8 g_14 hS (u 0 8) ((show g_14 100 8 = g_13 100 8 from (by rw [hg_14]; exact zm_wn _ _ (Or.inl (by omega)))).trans ((show g_13 100 8 = g_12 100 8 from (by rw [hg_13]; exact zm_wn _ _ (Or.inl (by omega)))).trans ((show g_12 100 8 = g_11 100 8 from (by rw [hg_12]; exact zm_wn _ _ (Or.inl (by omega)))).trans ((show g_11 100 8 = g_10 100 8 from (by rw [hg_11]; exact zm_wn _ _ (Or.inl (by omega)))).trans ((show g_10 100 8 = g_9 100 8 from (by rw [hg_10]; exact zm_wn _ _ (Or.inl (by omega)))).trans ((show g_9 100 8 = g 100 8 from (by rw [hg_9, va_up_ne _ _ (by omega)])).trans (hN0 _ _ _ _ rfl))))))) h8 (show sh_8 107 = some (.inr (3, 150, some (zc_sf (zn (u 0 8))))) from (by rw [hsh_8]; exact (va_up_ne _ _ (by omega)).trans hR.2.2.2.2.1)) (show sh_8 (200 + 2 * zn (u 0 8)) = some (.inl (4, [none, none, none, none, none])) from (by rw [hsh_8]; exact va_up_self _ _ _))) (fun v9 ad9 sh9 g9 H locs hp hW => ?_)
              obtain ⟨rfl, rfl, rfl, rfl⟩ := hp
              obtain ⟨sh_15, hsh_15⟩ : ∃ z : Nat → Option zw_Sh, z = va_up sh_8 107 (some (.inr (3, 150, some (zc_sf (zn (u 0 8) + 1))))) := ⟨_, rfl⟩
              obtain ⟨g_16, hg_16⟩ : ∃ z : zm_T, z = zm_w g_14 100 8 (u 0 8 + 1) := ⟨_, rfl⟩
              rw [← hsh_15, ← hg_16] at hW
              have hN9 : zc_N g_16 (zs_mk u (zs_v 3 key (-1) a b 1 1000000 0 0 0)) := by
                have e : u 0 8 = u 0 8 := by rfl
                rw [hg_16, ← e]; exact zc_Nmk hN _
              have e8 : zn (u 0 8) = zn (u 0 8) := by rfl
              have hu9 : ∀ r i : Nat, (r = 20 ∨ r = 22 ∨ r = 23 ∨ r = 24 ∨ r = 29 ∨ (r = 0 ∧ i = 28) ∨ (9 ≤ r ∧ r ≤ 18 ∧ i ≠ zn (u 0 8))) → zs_mk u (zs_v 3 key (-1) a b 1 1000000 0 0 0) r i = u r i := fun r i h => by
                rw [zs_mku u _ r i (by rw [e8]; exact h)]
              have hvv : ∀ r : Nat, 9 ≤ r ∧ r ≤ 18 → zs_mk u (zs_v 3 key (-1) a b 1 1000000 0 0 0) r (zn (u 0 8)) = (zs_v 3 key (-1) a b 1 1000000 0 0 0) r := fun r h => by rw [← e8]; exact zs_mkn u _ h
              have hsl9 : zc_sl sh_15 g_16 (zs_mk u (zs_v 3 key (-1) a b 1 1000000 0 0 0)) (zn (u 0 8)) := by
                unfold zc_sl
                rw [hvv 9 (by decide), hvv 10 (by decide), hvv 11 (by decide), hvv 12 (by decide), hvv 13 (by decide), hvv 14 (by decide), hvv 15 (by decide), hvv 16 (by decide), hvv 17 (by decide), hvv 18 (by decide)]
                exact ⟨fun h => absurd (show (3 : Int32).toInt = 1 from h) (by decide), fun h => absurd (show (3 : Int32).toInt = 2 from h) (by decide), fun _ => ⟨(show sh_15 (200 + 2 * zn (u 0 8)) = some (.inl (4, [none, none, none, none, none])) from (by rw [hsh_15]; exact (va_up_ne _ _ (by omega)).trans (show sh_8 (200 + 2 * zn (u 0 8)) = some (.inl (4, [none, none, none, none, none])) from (by rw [hsh_8]; exact va_up_self _ _ _)))), ((show g_16 (200 + 2 * zn (u 0 8)) 0 = g_14 (200 + 2 * zn (u 0 8)) 0 from (by rw [hg_16, zm_wn _ _ (Or.inl (by omega))])).trans ((show g_14 (200 + 2 * zn (u 0 8)) 0 = g_13 (200 + 2 * zn (u 0 8)) 0 from (by rw [hg_14]; exact zm_wn _ _ (Or.inr (by decide)))).trans ((show g_13 (200 + 2 * zn (u 0 8)) 0 = g_12 (200 + 2 * zn (u 0 8)) 0 from (by rw [hg_13]; exact zm_wn _ _ (Or.inr (by decide)))).trans ((show g_12 (200 + 2 * zn (u 0 8)) 0 = g_11 (200 + 2 * zn (u 0 8)) 0 from (by rw [hg_12]; exact zm_wn _ _ (Or.inr (by decide)))).trans ((show g_11 (200 + 2 * zn (u 0 8)) 0 = g_10 (200 + 2 * zn (u 0 8)) 0 from (by rw [hg_11]; exact zm_wn _ _ (Or.inr (by decide)))).trans (show g_10 (200 + 2 * zn (u 0 8)) 0 = key from (by rw [hg_10]; exact zm_ws _ _ _ _))))))), ((show g_16 (200 + 2 * zn (u 0 8)) 1 = g_14 (200 + 2 * zn (u 0 8)) 1 from (by rw [hg_16, zm_wn _ _ (Or.inl (by omega))])).trans ((show g_14 (200 + 2 * zn (u 0 8)) 1 = g_13 (200 + 2 * zn (u 0 8)) 1 from (by rw [hg_14]; exact zm_wn _ _ (Or.inr (by decide)))).trans ((show g_13 (200 + 2 * zn (u 0 8)) 1 = g_12 (200 + 2 * zn (u 0 8)) 1 from (by rw [hg_13]; exact zm_wn _ _ (Or.inr (by decide)))).trans ((show g_12 (200 + 2 * zn (u 0 8)) 1 = g_11 (200 + 2 * zn (u 0 8)) 1 from (by rw [hg_12]; exact zm_wn _ _ (Or.inr (by decide)))).trans (show g_11 (200 + 2 * zn (u 0 8)) 1 = a from (by rw [hg_11]; exact zm_ws _ _ _ _)))))), ((show g_16 (200 + 2 * zn (u 0 8)) 2 = g_14 (200 + 2 * zn (u 0 8)) 2 from (by rw [hg_16, zm_wn _ _ (Or.inl (by omega))])).trans ((show g_14 (200 + 2 * zn (u 0 8)) 2 = g_13 (200 + 2 * zn (u 0 8)) 2 from (by rw [hg_14]; exact zm_wn _ _ (Or.inr (by decide)))).trans ((show g_13 (200 + 2 * zn (u 0 8)) 2 = g_12 (200 + 2 * zn (u 0 8)) 2 from (by rw [hg_13]; exact zm_wn _ _ (Or.inr (by decide)))).trans (show g_12 (200 + 2 * zn (u 0 8)) 2 = b from (by rw [hg_12]; exact zm_ws _ _ _ _))))), ((show g_16 (200 + 2 * zn (u 0 8)) 3 = g_14 (200 + 2 * zn (u 0 8)) 3 from (by rw [hg_16, zm_wn _ _ (Or.inl (by omega))])).trans ((show g_14 (200 + 2 * zn (u 0 8)) 3 = g_13 (200 + 2 * zn (u 0 8)) 3 from (by rw [hg_14]; exact zm_wn _ _ (Or.inr (by decide)))).trans (show g_13 (200 + 2 * zn (u 0 8)) 3 = 1 from (by rw [hg_13]; exact zm_ws _ _ _ _)))), ((show g_16 (200 + 2 * zn (u 0 8)) 4 = g_14 (200 + 2 * zn (u 0 8)) 4 from (by rw [hg_16, zm_wn _ _ (Or.inl (by omega))])).trans (show g_14 (200 + 2 * zn (u 0 8)) 4 = 1000000 from (by rw [hg_14]; exact zm_ws _ _ _ _)))⟩, fun h => absurd (show (3 : Int32).toInt = 4 from h) (by decide)⟩
              have hz9 : zn (zs_mk u (zs_v 3 key (-1) a b 1 1000000 0 0 0) 0 8) = zn (u 0 8) + 1 := by have q9 := zs_mkz (u := u) (by exact h8) (zs_v 3 key (-1) a b 1 1000000 0 0 0); rw [q9, e8]
              have hR9 : zc_R sh_15 g_16 (zs_mk u (zs_v 3 key (-1) a b 1 1000000 0 0 0)) := zc_add (n := (zn (u 0 8))) hR rfl hz9 hN9 hu9 (show sh_15 107 = some (.inr (3, 150, some (zc_sf (zn (u 0 8) + 1)))) from (by rw [hsh_15]; exact va_up_self _ _ _)) (fun r h1 h2 h3 => by rw [hsh_15, va_up_ne _ _ (by omega), hsh_8, va_up_ne _ _ (by omega)]) (fun r h1 h2 h3 => by rw [hg_16, zm_wr (by omega), hg_14, zm_wr (by omega), hg_13, zm_wr (by omega), hg_12, zm_wr (by omega), hg_11, zm_wr (by omega), hg_10, zm_wr (by omega), hg_9, va_up_ne _ _ (by omega)]) (fun j hj => by rw [hg_16, zm_wn _ _ (by omega), hg_14, zm_wn _ _ (by omega), hg_13, zm_wn _ _ (by omega), hg_12, zm_wn _ _ (by omega), hg_11, zm_wn _ _ (by omega), hg_10, zm_wn _ _ (by omega), hg_9, va_up_ne _ _ (by omega)]) hsl9
              have hf9 : zc_fr ad sh g ad_7 sh_15 g_16 := ⟨fun r hr => had_7 r (by omega) (by omega), fun r hr => ⟨by rw [hsh_15, va_up_ne _ _ (by omega), hsh_8, va_up_ne _ _ (by omega)], by rw [hg_16, zm_wr (by omega), hg_14, zm_wr (by omega), hg_13, zm_wr (by omega), hg_12, zm_wr (by omega), hg_11, zm_wr (by omega), hg_10, zm_wr (by omega), hg_9, va_up_ne _ _ (by omega)]⟩⟩
              exact zr_iret X hW dX9_forge_92 (Nat.le_of_ble_eq_true rfl) (Nat.le_of_ble_eq_true rfl) ⟨by rw [hsp], by rw [hsp]; exact hR9, hf9⟩
            · subst h9
              have h_6 : ¬ ((u 0 2).toInt + 0 ≤ 200 ∧ (u 0 8).toInt + 1 ≤ 150) := h_6
              refine zr_if_ne (a := 0) (tgt := 78) X dX9_forge_72 (by decide) (by decide) (fun c9 => absurd c9 (by decide)) (fun _ => ?_)
              refine lv_bipush (v := (-7)) X.1 X.2.1 dX9_forge_75 (by decide) ?_
              have e9 : sp_forge key k cn a b u = ((-7), u) := (by unfold sp_forge; (repeat (first | refine (if_pos (by omega)).trans ?_ | refine (if_neg (by omega)).trans ?_)); rfl)
              exact zr_iret X hW dX9_forge_77 (Nat.le_of_ble_eq_true rfl) (Nat.le_of_ble_eq_true rfl) ⟨by rw [e9], by rw [e9]; exact hR, zc_fr0⟩
          · subst h9
            have h_5 : ¬ (zs_st u a) := h_5
            refine zr_if_ne (a := 0) (tgt := 66) X dX9_forge_60 (by decide) (by decide) (fun c9 => absurd c9 (by decide)) (fun _ => ?_)
            refine lv_bipush (v := (-2)) X.1 X.2.1 dX9_forge_63 (by decide) ?_
            have e9 : sp_forge key k cn a b u = ((-2), u) := (by unfold sp_forge; (repeat (first | refine (if_pos (by omega)).trans ?_ | refine (if_neg (by omega)).trans ?_)); rfl)
            exact zr_iret X hW dX9_forge_65 (Nat.le_of_ble_eq_true rfl) (Nat.le_of_ble_eq_true rfl) ⟨by rw [e9], by rw [e9]; exact hR, zc_fr0⟩
        · subst h9
          have h_4 : ¬ (zs_st u key) := h_4
          refine zr_if_eq (a := 0) (tgt := 63) X dX9_forge_46 (by decide) (by decide) (fun _ => ?_) (fun c9 => absurd c9 (by decide))
          refine lv_bipush (v := (-2)) X.1 X.2.1 dX9_forge_63 (by decide) ?_
          have e9 : sp_forge key k cn a b u = ((-2), u) := (by unfold sp_forge; (repeat (first | refine (if_pos (by omega)).trans ?_ | refine (if_neg (by omega)).trans ?_)); rfl)
          exact zr_iret X hW dX9_forge_65 (Nat.le_of_ble_eq_true rfl) (Nat.le_of_ble_eq_true rfl) ⟨by rw [e9], by rw [e9]; exact hR, zc_fr0⟩
      · refine lv_iload_n X.1 X.2.1 dX9_forge_15 rfl (lv_at hl 3 rfl) ?_
        refine zr_callS (As := [.int cn]) (rest := []) X hW hl.1 md_X9_isPrincipal ms_X9_72 dX9_forge_16 rfl rfl (Nat.le_of_ble_eq_true rfl) ⟨Nat.le_of_ble_eq_true rfl, Nat.le_of_ble_eq_true rfl⟩ ⟨Nat.le_of_ble_eq_true rfl, Nat.le_of_ble_eq_true rfl⟩ (c_X9_isPrincipal l Y N0 ad sh g cn) (fun v9 ad9 sh9 g9 H locs hp hW => ?_)
        rcases hp with ⟨rfl, rfl, rfl, ⟨h_17, h9⟩ | ⟨h_17, h9⟩⟩
        · subst h9
          have h_17 : zi_in cn 0 5 := h_17
          refine zr_if_ne (a := 1) (tgt := 24) X dX9_forge_19 (by decide) (by decide) (fun _ => ?_) (fun c9 => absurd c9 (by decide))
          refine lv_iload_n X.1 X.2.1 dX9_forge_24 rfl (lv_at hl 2 rfl) ?_
          refine lv_iconst (v := 2) X.1 X.2.1 dX9_forge_25 (by decide) ?_
          refine zr_icmp_eq (a := (k).toInt) (b := 2) (tgt := 34) X dX9_forge_26 (by decide) rfl (by decide) (fun c_18 => ?_) (fun c_18 => ?_)
          · refine lv_iconst (v := 1) X.1 X.2.1 dX9_forge_34 (by decide) ?_
            refine lv_goto (tgt := 39) X.1 X.2.1 dX9_forge_35 (by decide) ?_
            refine lv_istore (lv' := [(6, .int 1), (0, .ref (ad 100)), (1, .int key), (2, .int k), (3, .int cn), (4, .int a), (5, .int b)]) X.1 X.2.1 dX9_forge_39 hl (by decide) rfl (fun ls hl => ?_)
            refine lv_aload_n X.1 X.2.1 dX9_forge_41 rfl (lv_at hl 1 rfl) ?_
            refine lv_iload_n X.1 X.2.1 dX9_forge_42 rfl (lv_at hl 2 rfl) ?_
            refine zr_callV (As := [.int key]) (rest := []) X hW hl.1 md_X9_isStolen ms_X9_270 dX9_forge_43 (zc_s100 hS) rfl rfl rfl rfl (Nat.le_of_ble_eq_true rfl) ⟨Nat.le_of_ble_eq_true rfl, Nat.le_of_ble_eq_true rfl⟩ ⟨Nat.le_of_ble_eq_true rfl, Nat.le_of_ble_eq_true rfl⟩ (c_X9_isStolen l Y N0 ad sh g u hS hN hI key) (fun v9 ad9 sh9 g9 H locs hp hW => ?_)
            rcases hp with ⟨rfl, rfl, rfl, ⟨h_19, h9⟩ | ⟨h_19, h9⟩⟩
            · subst h9
              have h_19 : zs_st u key := h_19
              refine zr_if_eq (a := 1) (tgt := 63) X dX9_forge_46 (by decide) (by decide) (fun c9 => absurd c9 (by decide)) (fun _ => ?_)
              refine lv_iload X.1 X.2.1 dX9_forge_49 (lv_at hl 0 rfl) ?_
              refine zr_if_eq (a := 1) (tgt := 66) X dX9_forge_51 (by decide) (by decide) (fun c9 => absurd c9 (by decide)) (fun _ => ?_)
              refine lv_aload_n X.1 X.2.1 dX9_forge_54 rfl (lv_at hl 1 rfl) ?_
              refine lv_iload X.1 X.2.1 dX9_forge_55 (lv_at hl 5 rfl) ?_
              refine zr_callV (As := [.int a]) (rest := []) X hW hl.1 md_X9_isStolen ms_X9_270 dX9_forge_57 (zc_s100 hS) rfl rfl rfl rfl (Nat.le_of_ble_eq_true rfl) ⟨Nat.le_of_ble_eq_true rfl, Nat.le_of_ble_eq_true rfl⟩ ⟨Nat.le_of_ble_eq_true rfl, Nat.le_of_ble_eq_true rfl⟩ (c_X9_isStolen l Y N0 ad sh g u hS hN hI a) (fun v9 ad9 sh9 g9 H locs hp hW => ?_)
              rcases hp with ⟨rfl, rfl, rfl, ⟨h_20, h9⟩ | ⟨h_20, h9⟩⟩
              · subst h9
                have h_20 : zs_st u a := h_20
                refine zr_if_ne (a := 1) (tgt := 66) X dX9_forge_60 (by decide) (by decide) (fun _ => ?_) (fun c9 => absurd c9 (by decide))
                refine lv_aload_n X.1 X.2.1 dX9_forge_66 rfl (lv_at hl 1 rfl) ?_
                refine lv_iconst (v := 0) X.1 X.2.1 dX9_forge_67 (by decide) ?_
                refine lv_iconst (v := 1) X.1 X.2.1 dX9_forge_68 (by decide) ?_
                refine zr_callV (As := [.int 0, .int 1]) (rest := []) X hW hl.1 md_X9_hasRoom ms_X9_76 dX9_forge_69 (zc_s100 hS) rfl rfl rfl rfl (Nat.le_of_ble_eq_true rfl) ⟨Nat.le_of_ble_eq_true rfl, Nat.le_of_ble_eq_true rfl⟩ ⟨Nat.le_of_ble_eq_true rfl, Nat.le_of_ble_eq_true rfl⟩ (c_X9_hasRoom_01 l Y N0 ad sh g u hS hN hI) (fun v9 ad9 sh9 g9 H locs hp hW => ?_)
                rcases hp with ⟨rfl, rfl, rfl, ⟨h_21, h9⟩ | ⟨h_21, h9⟩⟩
                · subst h9
                  have h_21 : (u 0 2).toInt + 0 ≤ 200 ∧ (u 0 8).toInt + 1 ≤ 150 := h_21
                  refine zr_if_ne (a := 1) (tgt := 78) X dX9_forge_72 (by decide) (by decide) (fun _ => ?_) (fun c9 => absurd c9 (by decide))
                  have h8 : 0 ≤ (u 0 8).toInt ∧ (u 0 8).toInt < 150 := by omega
                  have hc9 : k.toInt = 2 := by omega
                  have hsp : sp_forge key k cn a b u = (u 0 8, zs_mk u (zs_v 2 key cn a 0 b b 0 0 0)) := (by unfold sp_forge; (repeat (first | refine (if_pos (by omega)).trans ?_ | refine (if_neg (by omega)).trans ?_)); exact congrArg (fun z => ((u 0 8, zs_mk u z) : Int32 × zm_T)) (by (repeat (first | refine (if_pos (by omega)).trans ?_ | refine (if_neg (by omega)).trans ?_)); rfl))
                  have hc9 : k = 2 := zi_ext hc9
                  subst hc9
                  refine lv_aload_n X.1 X.2.1 dX9_forge_78 rfl (lv_at hl 1 rfl) ?_
                  refine lv_iload_n X.1 X.2.1 dX9_forge_79 rfl (lv_at hl 2 rfl) ?_
                  refine lv_iload_n X.1 X.2.1 dX9_forge_80 rfl (lv_at hl 3 rfl) ?_
                  refine lv_iload_n X.1 X.2.1 dX9_forge_81 rfl (lv_at hl 4 rfl) ?_
                  refine lv_iload X.1 X.2.1 dX9_forge_82 (lv_at hl 5 rfl) ?_
                  refine lv_iload X.1 X.2.1 dX9_forge_84 (lv_at hl 6 rfl) ?_
                  refine zr_callS (As := [.int key, .int 2, .int cn, .int a, .int b]) (rest := [.ref (ad 100)]) X hW hl.1 md_X9_forgedSeal ms_X9_276 dX9_forge_86 rfl rfl (Nat.le_of_ble_eq_true rfl) ⟨Nat.le_of_ble_eq_true rfl, Nat.le_of_ble_eq_true rfl⟩ ⟨Nat.le_of_ble_eq_true rfl, Nat.le_of_ble_eq_true rfl⟩ (c_X9_forgedSeal_2 l Y N0 ad sh g hS (zn (u 0 8)) (hR.2.2.2.2.2.2.1 (200 + 2 * zn (u 0 8)) (by omega)) key cn a b) (fun v9 ad9 sh9 g9 H locs hp hW => ?_)
                  obtain ⟨rfl, had9, hsh9, hg9⟩ := hp
                  obtain ⟨ad_22, rfl⟩ : ∃ z : Nat → Nat, z = ad9 := ⟨_, rfl⟩
                  have had_22 : ∀ r : Nat, r ≠ (200 + 2 * zn (u 0 8)) → r ≠ (201 + 2 * zn (u 0 8)) → ad_22 r = ad r := fun r h1 h2 => had9 r h1
                  obtain ⟨sh_23, hsh_23⟩ : ∃ z : Nat → Option zw_Sh, z = va_up sh (200 + 2 * zn (u 0 8)) (some (.inl (6, [none, none, none, none, none, none]))) := ⟨_, rfl⟩
                  have hS : zc_S sh_23 := by rw [hsh_23]; exact zc_S200 (by omega) hS
                  obtain ⟨g_24, hg_24⟩ : ∃ z : zm_T, z = va_up g (200 + 2 * zn (u 0 8)) (fun _ => 0) := ⟨_, rfl⟩
                  have hN : zc_N g_24 u := by rw [hg_24]; exact zc_Nv hN (by omega)
                  obtain ⟨g_25, hg_25⟩ : ∃ z : zm_T, z = zm_w g_24 (200 + 2 * zn (u 0 8)) 0 key := ⟨_, rfl⟩
                  have hN : zc_N g_25 u := by rw [hg_25]; exact zc_Nc hN (zc_lm200 (by omega)) _
                  obtain ⟨g_26, hg_26⟩ : ∃ z : zm_T, z = zm_w g_25 (200 + 2 * zn (u 0 8)) 1 cn := ⟨_, rfl⟩
                  have hN : zc_N g_26 u := by rw [hg_26]; exact zc_Nc hN (zc_lm200 (by omega)) _
                  obtain ⟨g_27, hg_27⟩ : ∃ z : zm_T, z = zm_w g_26 (200 + 2 * zn (u 0 8)) 2 a := ⟨_, rfl⟩
                  have hN : zc_N g_27 u := by rw [hg_27]; exact zc_Nc hN (zc_lm200 (by omega)) _
                  obtain ⟨g_28, hg_28⟩ : ∃ z : zm_T, z = zm_w g_27 (200 + 2 * zn (u 0 8)) 3 0 := ⟨_, rfl⟩
                  have hN : zc_N g_28 u := by rw [hg_28]; exact zc_Nc hN (zc_lm200 (by omega)) _
                  obtain ⟨g_29, hg_29⟩ : ∃ z : zm_T, z = zm_w g_28 (200 + 2 * zn (u 0 8)) 4 b := ⟨_, rfl⟩
                  have hN : zc_N g_29 u := by rw [hg_29]; exact zc_Nc hN (zc_lm200 (by omega)) _
                  obtain ⟨g_30, hg_30⟩ : ∃ z : zm_T, z = zm_w g_29 (200 + 2 * zn (u 0 8)) 5 b := ⟨_, rfl⟩
                  have hN : zc_N g_30 u := by rw [hg_30]; exact zc_Nc hN (zc_lm200 (by omega)) _
                  rw [hsh9, hg9] at hW
                  rw [← hsh_23, ← hg_24, ← hg_25, ← hg_26, ← hg_27, ← hg_28, ← hg_29, ← hg_30] at hW
                  refine zr_callV (As := [.ref (ad_22 (200 + 2 * zn (u 0 8)))]) (rest := []) X hW hl.1 md_X9_keep ms_X9_130 dX9_forge_89 (zc_s100 hS) rfl rfl rfl (by rw [(had_22 100 (by omega) (by omega))] <;> rfl) (Nat.le_of_ble_eq_true rfl) ⟨Nat.le_of_ble_eq_true rfl, Nat.le_of_ble_eq_true rfl⟩ ⟨Nat.le_of_ble_eq_true rfl, Nat.le_of_ble_eq_true rfl⟩ (c_X9_keep_6 l Y N0 ad_22 sh_23 g_30 hS (u 0 8) ((show g_30 100 8 = g_29 100 8 from (by rw [hg_30]; exact zm_wn _ _ (Or.inl (by omega)))).trans ((show g_29 100 8 = g_28 100 8 from (by rw [hg_29]; exact zm_wn _ _ (Or.inl (by omega)))).trans ((show g_28 100 8 = g_27 100 8 from (by rw [hg_28]; exact zm_wn _ _ (Or.inl (by omega)))).trans ((show g_27 100 8 = g_26 100 8 from (by rw [hg_27]; exact zm_wn _ _ (Or.inl (by omega)))).trans ((show g_26 100 8 = g_25 100 8 from (by rw [hg_26]; exact zm_wn _ _ (Or.inl (by omega)))).trans ((show g_25 100 8 = g_24 100 8 from (by rw [hg_25]; exact zm_wn _ _ (Or.inl (by omega)))).trans ((show g_24 100 8 = g 100 8 from (by rw [hg_24, va_up_ne _ _ (by omega)])).trans (hN0 _ _ _ _ rfl)))))))) h8 (show sh_23 107 = some (.inr (3, 150, some (zc_sf (zn (u 0 8))))) from (by rw [hsh_23]; exact (va_up_ne _ _ (by omega)).trans hR.2.2.2.2.1)) (show sh_23 (200 + 2 * zn (u 0 8)) = some (.inl (6, [none, none, none, none, none, none])) from (by rw [hsh_23]; exact va_up_self _ _ _))) (fun v9 ad9 sh9 g9 H locs hp hW => ?_)
                  obtain ⟨rfl, rfl, rfl, rfl⟩ := hp
                  obtain ⟨sh_31, hsh_31⟩ : ∃ z : Nat → Option zw_Sh, z = va_up sh_23 107 (some (.inr (3, 150, some (zc_sf (zn (u 0 8) + 1))))) := ⟨_, rfl⟩
                  obtain ⟨g_32, hg_32⟩ : ∃ z : zm_T, z = zm_w g_30 100 8 (u 0 8 + 1) := ⟨_, rfl⟩
                  rw [← hsh_31, ← hg_32] at hW
                  have hN9 : zc_N g_32 (zs_mk u (zs_v 2 key cn a 0 b b 0 0 0)) := by
                    have e : u 0 8 = u 0 8 := by rfl
                    rw [hg_32, ← e]; exact zc_Nmk hN _
                  have e8 : zn (u 0 8) = zn (u 0 8) := by rfl
                  have hu9 : ∀ r i : Nat, (r = 20 ∨ r = 22 ∨ r = 23 ∨ r = 24 ∨ r = 29 ∨ (r = 0 ∧ i = 28) ∨ (9 ≤ r ∧ r ≤ 18 ∧ i ≠ zn (u 0 8))) → zs_mk u (zs_v 2 key cn a 0 b b 0 0 0) r i = u r i := fun r i h => by
                    rw [zs_mku u _ r i (by rw [e8]; exact h)]
                  have hvv : ∀ r : Nat, 9 ≤ r ∧ r ≤ 18 → zs_mk u (zs_v 2 key cn a 0 b b 0 0 0) r (zn (u 0 8)) = (zs_v 2 key cn a 0 b b 0 0 0) r := fun r h => by rw [← e8]; exact zs_mkn u _ h
                  have hsl9 : zc_sl sh_31 g_32 (zs_mk u (zs_v 2 key cn a 0 b b 0 0 0)) (zn (u 0 8)) := by
                    unfold zc_sl
                    rw [hvv 9 (by decide), hvv 10 (by decide), hvv 11 (by decide), hvv 12 (by decide), hvv 13 (by decide), hvv 14 (by decide), hvv 15 (by decide), hvv 16 (by decide), hvv 17 (by decide), hvv 18 (by decide)]
                    exact ⟨fun h => absurd (show (2 : Int32).toInt = 1 from h) (by decide), fun _ => ⟨(show sh_31 (200 + 2 * zn (u 0 8)) = some (.inl (6, [none, none, none, none, none, none])) from (by rw [hsh_31]; exact (va_up_ne _ _ (by omega)).trans (show sh_23 (200 + 2 * zn (u 0 8)) = some (.inl (6, [none, none, none, none, none, none])) from (by rw [hsh_23]; exact va_up_self _ _ _)))), ((show g_32 (200 + 2 * zn (u 0 8)) 0 = g_30 (200 + 2 * zn (u 0 8)) 0 from (by rw [hg_32, zm_wn _ _ (Or.inl (by omega))])).trans ((show g_30 (200 + 2 * zn (u 0 8)) 0 = g_29 (200 + 2 * zn (u 0 8)) 0 from (by rw [hg_30]; exact zm_wn _ _ (Or.inr (by decide)))).trans ((show g_29 (200 + 2 * zn (u 0 8)) 0 = g_28 (200 + 2 * zn (u 0 8)) 0 from (by rw [hg_29]; exact zm_wn _ _ (Or.inr (by decide)))).trans ((show g_28 (200 + 2 * zn (u 0 8)) 0 = g_27 (200 + 2 * zn (u 0 8)) 0 from (by rw [hg_28]; exact zm_wn _ _ (Or.inr (by decide)))).trans ((show g_27 (200 + 2 * zn (u 0 8)) 0 = g_26 (200 + 2 * zn (u 0 8)) 0 from (by rw [hg_27]; exact zm_wn _ _ (Or.inr (by decide)))).trans ((show g_26 (200 + 2 * zn (u 0 8)) 0 = g_25 (200 + 2 * zn (u 0 8)) 0 from (by rw [hg_26]; exact zm_wn _ _ (Or.inr (by decide)))).trans (show g_25 (200 + 2 * zn (u 0 8)) 0 = key from (by rw [hg_25]; exact zm_ws _ _ _ _)))))))), ((show g_32 (200 + 2 * zn (u 0 8)) 1 = g_30 (200 + 2 * zn (u 0 8)) 1 from (by rw [hg_32, zm_wn _ _ (Or.inl (by omega))])).trans ((show g_30 (200 + 2 * zn (u 0 8)) 1 = g_29 (200 + 2 * zn (u 0 8)) 1 from (by rw [hg_30]; exact zm_wn _ _ (Or.inr (by decide)))).trans ((show g_29 (200 + 2 * zn (u 0 8)) 1 = g_28 (200 + 2 * zn (u 0 8)) 1 from (by rw [hg_29]; exact zm_wn _ _ (Or.inr (by decide)))).trans ((show g_28 (200 + 2 * zn (u 0 8)) 1 = g_27 (200 + 2 * zn (u 0 8)) 1 from (by rw [hg_28]; exact zm_wn _ _ (Or.inr (by decide)))).trans ((show g_27 (200 + 2 * zn (u 0 8)) 1 = g_26 (200 + 2 * zn (u 0 8)) 1 from (by rw [hg_27]; exact zm_wn _ _ (Or.inr (by decide)))).trans (show g_26 (200 + 2 * zn (u 0 8)) 1 = cn from (by rw [hg_26]; exact zm_ws _ _ _ _))))))), ((show g_32 (200 + 2 * zn (u 0 8)) 2 = g_30 (200 + 2 * zn (u 0 8)) 2 from (by rw [hg_32, zm_wn _ _ (Or.inl (by omega))])).trans ((show g_30 (200 + 2 * zn (u 0 8)) 2 = g_29 (200 + 2 * zn (u 0 8)) 2 from (by rw [hg_30]; exact zm_wn _ _ (Or.inr (by decide)))).trans ((show g_29 (200 + 2 * zn (u 0 8)) 2 = g_28 (200 + 2 * zn (u 0 8)) 2 from (by rw [hg_29]; exact zm_wn _ _ (Or.inr (by decide)))).trans ((show g_28 (200 + 2 * zn (u 0 8)) 2 = g_27 (200 + 2 * zn (u 0 8)) 2 from (by rw [hg_28]; exact zm_wn _ _ (Or.inr (by decide)))).trans (show g_27 (200 + 2 * zn (u 0 8)) 2 = a from (by rw [hg_27]; exact zm_ws _ _ _ _)))))), ((show g_32 (200 + 2 * zn (u 0 8)) 3 = g_30 (200 + 2 * zn (u 0 8)) 3 from (by rw [hg_32, zm_wn _ _ (Or.inl (by omega))])).trans ((show g_30 (200 + 2 * zn (u 0 8)) 3 = g_29 (200 + 2 * zn (u 0 8)) 3 from (by rw [hg_30]; exact zm_wn _ _ (Or.inr (by decide)))).trans ((show g_29 (200 + 2 * zn (u 0 8)) 3 = g_28 (200 + 2 * zn (u 0 8)) 3 from (by rw [hg_29]; exact zm_wn _ _ (Or.inr (by decide)))).trans (show g_28 (200 + 2 * zn (u 0 8)) 3 = 0 from (by rw [hg_28]; exact zm_ws _ _ _ _))))), ((show g_32 (200 + 2 * zn (u 0 8)) 4 = g_30 (200 + 2 * zn (u 0 8)) 4 from (by rw [hg_32, zm_wn _ _ (Or.inl (by omega))])).trans ((show g_30 (200 + 2 * zn (u 0 8)) 4 = g_29 (200 + 2 * zn (u 0 8)) 4 from (by rw [hg_30]; exact zm_wn _ _ (Or.inr (by decide)))).trans (show g_29 (200 + 2 * zn (u 0 8)) 4 = b from (by rw [hg_29]; exact zm_ws _ _ _ _)))), ((show g_32 (200 + 2 * zn (u 0 8)) 5 = g_30 (200 + 2 * zn (u 0 8)) 5 from (by rw [hg_32, zm_wn _ _ (Or.inl (by omega))])).trans (show g_30 (200 + 2 * zn (u 0 8)) 5 = b from (by rw [hg_30]; exact zm_ws _ _ _ _)))⟩, fun h => absurd (show (2 : Int32).toInt = 3 from h) (by decide), fun h => absurd (show (2 : Int32).toInt = 4 from h) (by decide)⟩
                  have hz9 : zn (zs_mk u (zs_v 2 key cn a 0 b b 0 0 0) 0 8) = zn (u 0 8) + 1 := by have q9 := zs_mkz (u := u) (by exact h8) (zs_v 2 key cn a 0 b b 0 0 0); rw [q9, e8]
                  have hR9 : zc_R sh_31 g_32 (zs_mk u (zs_v 2 key cn a 0 b b 0 0 0)) := zc_add (n := (zn (u 0 8))) hR rfl hz9 hN9 hu9 (show sh_31 107 = some (.inr (3, 150, some (zc_sf (zn (u 0 8) + 1)))) from (by rw [hsh_31]; exact va_up_self _ _ _)) (fun r h1 h2 h3 => by rw [hsh_31, va_up_ne _ _ (by omega), hsh_23, va_up_ne _ _ (by omega)]) (fun r h1 h2 h3 => by rw [hg_32, zm_wr (by omega), hg_30, zm_wr (by omega), hg_29, zm_wr (by omega), hg_28, zm_wr (by omega), hg_27, zm_wr (by omega), hg_26, zm_wr (by omega), hg_25, zm_wr (by omega), hg_24, va_up_ne _ _ (by omega)]) (fun j hj => by rw [hg_32, zm_wn _ _ (by omega), hg_30, zm_wn _ _ (by omega), hg_29, zm_wn _ _ (by omega), hg_28, zm_wn _ _ (by omega), hg_27, zm_wn _ _ (by omega), hg_26, zm_wn _ _ (by omega), hg_25, zm_wn _ _ (by omega), hg_24, va_up_ne _ _ (by omega)]) hsl9
                  have hf9 : zc_fr ad sh g ad_22 sh_31 g_32 := ⟨fun r hr => had_22 r (by omega) (by omega), fun r hr => ⟨by rw [hsh_31, va_up_ne _ _ (by omega), hsh_23, va_up_ne _ _ (by omega)], by rw [hg_32, zm_wr (by omega), hg_30, zm_wr (by omega), hg_29, zm_wr (by omega), hg_28, zm_wr (by omega), hg_27, zm_wr (by omega), hg_26, zm_wr (by omega), hg_25, zm_wr (by omega), hg_24, va_up_ne _ _ (by omega)]⟩⟩
                  exact zr_iret X hW dX9_forge_92 (Nat.le_of_ble_eq_true rfl) (Nat.le_of_ble_eq_true rfl) ⟨by rw [hsp], by rw [hsp]; exact hR9, hf9⟩
                · subst h9
                  have h_21 : ¬ ((u 0 2).toInt + 0 ≤ 200 ∧ (u 0 8).toInt + 1 ≤ 150) := h_21
                  refine zr_if_ne (a := 0) (tgt := 78) X dX9_forge_72 (by decide) (by decide) (fun c9 => absurd c9 (by decide)) (fun _ => ?_)
                  refine lv_bipush (v := (-7)) X.1 X.2.1 dX9_forge_75 (by decide) ?_
                  have e9 : sp_forge key k cn a b u = ((-7), u) := (by unfold sp_forge; (repeat (first | refine (if_pos (by omega)).trans ?_ | refine (if_neg (by omega)).trans ?_)); rfl)
                  exact zr_iret X hW dX9_forge_77 (Nat.le_of_ble_eq_true rfl) (Nat.le_of_ble_eq_true rfl) ⟨by rw [e9], by rw [e9]; exact hR, zc_fr0⟩
              · subst h9
                have h_20 : ¬ (zs_st u a) := h_20
                refine zr_if_ne (a := 0) (tgt := 66) X dX9_forge_60 (by decide) (by decide) (fun c9 => absurd c9 (by decide)) (fun _ => ?_)
                refine lv_bipush (v := (-2)) X.1 X.2.1 dX9_forge_63 (by decide) ?_
                have e9 : sp_forge key k cn a b u = ((-2), u) := (by unfold sp_forge; (repeat (first | refine (if_pos (by omega)).trans ?_ | refine (if_neg (by omega)).trans ?_)); rfl)
                exact zr_iret X hW dX9_forge_65 (Nat.le_of_ble_eq_true rfl) (Nat.le_of_ble_eq_true rfl) ⟨by rw [e9], by rw [e9]; exact hR, zc_fr0⟩
            · subst h9
              have h_19 : ¬ (zs_st u key) := h_19
              refine zr_if_eq (a := 0) (tgt := 63) X dX9_forge_46 (by decide) (by decide) (fun _ => ?_) (fun c9 => absurd c9 (by decide))
              refine lv_bipush (v := (-2)) X.1 X.2.1 dX9_forge_63 (by decide) ?_
              have e9 : sp_forge key k cn a b u = ((-2), u) := (by unfold sp_forge; (repeat (first | refine (if_pos (by omega)).trans ?_ | refine (if_neg (by omega)).trans ?_)); rfl)
              exact zr_iret X hW dX9_forge_65 (Nat.le_of_ble_eq_true rfl) (Nat.le_of_ble_eq_true rfl) ⟨by rw [e9], by rw [e9]; exact hR, zc_fr0⟩
          · refine lv_iload_n X.1 X.2.1 dX9_forge_29 rfl (lv_at hl 2 rfl) ?_
            refine lv_iconst (v := 3) X.1 X.2.1 dX9_forge_30 (by decide) ?_
            refine zr_icmp_ne (a := (k).toInt) (b := 3) (tgt := 38) X dX9_forge_31 (by decide) rfl (by decide) (fun _ => ?_) (fun c9 => absurd c9 (by omega))
            refine lv_iconst (v := 0) X.1 X.2.1 dX9_forge_38 (by decide) ?_
            refine lv_istore (lv' := [(6, .int 0), (0, .ref (ad 100)), (1, .int key), (2, .int k), (3, .int cn), (4, .int a), (5, .int b)]) X.1 X.2.1 dX9_forge_39 hl (by decide) rfl (fun ls hl => ?_)
            refine lv_aload_n X.1 X.2.1 dX9_forge_41 rfl (lv_at hl 1 rfl) ?_
            refine lv_iload_n X.1 X.2.1 dX9_forge_42 rfl (lv_at hl 2 rfl) ?_
            refine zr_callV (As := [.int key]) (rest := []) X hW hl.1 md_X9_isStolen ms_X9_270 dX9_forge_43 (zc_s100 hS) rfl rfl rfl rfl (Nat.le_of_ble_eq_true rfl) ⟨Nat.le_of_ble_eq_true rfl, Nat.le_of_ble_eq_true rfl⟩ ⟨Nat.le_of_ble_eq_true rfl, Nat.le_of_ble_eq_true rfl⟩ (c_X9_isStolen l Y N0 ad sh g u hS hN hI key) (fun v9 ad9 sh9 g9 H locs hp hW => ?_)
            rcases hp with ⟨rfl, rfl, rfl, ⟨h_33, h9⟩ | ⟨h_33, h9⟩⟩
            · subst h9
              have h_33 : zs_st u key := h_33
              refine zr_if_eq (a := 1) (tgt := 63) X dX9_forge_46 (by decide) (by decide) (fun c9 => absurd c9 (by decide)) (fun _ => ?_)
              refine lv_iload X.1 X.2.1 dX9_forge_49 (lv_at hl 0 rfl) ?_
              refine zr_if_eq (a := 0) (tgt := 66) X dX9_forge_51 (by decide) (by decide) (fun _ => ?_) (fun c9 => absurd c9 (by decide))
              refine lv_aload_n X.1 X.2.1 dX9_forge_66 rfl (lv_at hl 1 rfl) ?_
              refine lv_iconst (v := 0) X.1 X.2.1 dX9_forge_67 (by decide) ?_
              refine lv_iconst (v := 1) X.1 X.2.1 dX9_forge_68 (by decide) ?_
              refine zr_callV (As := [.int 0, .int 1]) (rest := []) X hW hl.1 md_X9_hasRoom ms_X9_76 dX9_forge_69 (zc_s100 hS) rfl rfl rfl rfl (Nat.le_of_ble_eq_true rfl) ⟨Nat.le_of_ble_eq_true rfl, Nat.le_of_ble_eq_true rfl⟩ ⟨Nat.le_of_ble_eq_true rfl, Nat.le_of_ble_eq_true rfl⟩ (c_X9_hasRoom_01 l Y N0 ad sh g u hS hN hI) (fun v9 ad9 sh9 g9 H locs hp hW => ?_)
              rcases hp with ⟨rfl, rfl, rfl, ⟨h_34, h9⟩ | ⟨h_34, h9⟩⟩
              · subst h9
                have h_34 : (u 0 2).toInt + 0 ≤ 200 ∧ (u 0 8).toInt + 1 ≤ 150 := h_34
                refine zr_if_ne (a := 1) (tgt := 78) X dX9_forge_72 (by decide) (by decide) (fun _ => ?_) (fun c9 => absurd c9 (by decide))
                have h8 : 0 ≤ (u 0 8).toInt ∧ (u 0 8).toInt < 150 := by omega
                obtain hc9 | hc9 : k.toInt = 1 ∨ k.toInt = 4 := by omega
                · have hsp : sp_forge key k cn a b u = (u 0 8, zs_mk u (zs_v 1 key cn (-1) b 0 0 0 0 0)) := (by unfold sp_forge; (repeat (first | refine (if_pos (by omega)).trans ?_ | refine (if_neg (by omega)).trans ?_)); exact congrArg (fun z => ((u 0 8, zs_mk u z) : Int32 × zm_T)) (by (repeat (first | refine (if_pos (by omega)).trans ?_ | refine (if_neg (by omega)).trans ?_)); rfl))
                  have hc9 : k = 1 := zi_ext hc9
                  subst hc9
                  refine lv_aload_n X.1 X.2.1 dX9_forge_78 rfl (lv_at hl 1 rfl) ?_
                  refine lv_iload_n X.1 X.2.1 dX9_forge_79 rfl (lv_at hl 2 rfl) ?_
                  refine lv_iload_n X.1 X.2.1 dX9_forge_80 rfl (lv_at hl 3 rfl) ?_
                  refine lv_iload_n X.1 X.2.1 dX9_forge_81 rfl (lv_at hl 4 rfl) ?_
                  refine lv_iload X.1 X.2.1 dX9_forge_82 (lv_at hl 5 rfl) ?_
                  refine lv_iload X.1 X.2.1 dX9_forge_84 (lv_at hl 6 rfl) ?_
                  refine zr_callS (As := [.int key, .int 1, .int cn, .int a, .int b]) (rest := [.ref (ad 100)]) X hW hl.1 md_X9_forgedSeal ms_X9_276 dX9_forge_86 rfl rfl (Nat.le_of_ble_eq_true rfl) ⟨Nat.le_of_ble_eq_true rfl, Nat.le_of_ble_eq_true rfl⟩ ⟨Nat.le_of_ble_eq_true rfl, Nat.le_of_ble_eq_true rfl⟩ (c_X9_forgedSeal_1 l Y N0 ad sh g hS (zn (u 0 8)) (hR.2.2.2.2.2.2.1 (200 + 2 * zn (u 0 8)) (by omega)) key cn a b) (fun v9 ad9 sh9 g9 H locs hp hW => ?_)
                  obtain ⟨rfl, had9, hsh9, hg9⟩ := hp
                  obtain ⟨ad_35, rfl⟩ : ∃ z : Nat → Nat, z = ad9 := ⟨_, rfl⟩
                  have had_35 : ∀ r : Nat, r ≠ (200 + 2 * zn (u 0 8)) → r ≠ (201 + 2 * zn (u 0 8)) → ad_35 r = ad r := fun r h1 h2 => had9 r h1
                  obtain ⟨sh_36, hsh_36⟩ : ∃ z : Nat → Option zw_Sh, z = va_up sh (200 + 2 * zn (u 0 8)) (some (.inl (5, [none, none, none]))) := ⟨_, rfl⟩
                  have hS : zc_S sh_36 := by rw [hsh_36]; exact zc_S200 (by omega) hS
                  obtain ⟨g_37, hg_37⟩ : ∃ z : zm_T, z = va_up g (200 + 2 * zn (u 0 8)) (fun _ => 0) := ⟨_, rfl⟩
                  have hN : zc_N g_37 u := by rw [hg_37]; exact zc_Nv hN (by omega)
                  obtain ⟨g_38, hg_38⟩ : ∃ z : zm_T, z = zm_w g_37 (200 + 2 * zn (u 0 8)) 0 key := ⟨_, rfl⟩
                  have hN : zc_N g_38 u := by rw [hg_38]; exact zc_Nc hN (zc_lm200 (by omega)) _
                  obtain ⟨g_39, hg_39⟩ : ∃ z : zm_T, z = zm_w g_38 (200 + 2 * zn (u 0 8)) 1 cn := ⟨_, rfl⟩
                  have hN : zc_N g_39 u := by rw [hg_39]; exact zc_Nc hN (zc_lm200 (by omega)) _
                  obtain ⟨g_40, hg_40⟩ : ∃ z : zm_T, z = zm_w g_39 (200 + 2 * zn (u 0 8)) 2 b := ⟨_, rfl⟩
                  have hN : zc_N g_40 u := by rw [hg_40]; exact zc_Nc hN (zc_lm200 (by omega)) _
                  rw [hsh9, hg9] at hW
                  rw [← hsh_36, ← hg_37, ← hg_38, ← hg_39, ← hg_40] at hW
                  refine zr_callV (As := [.ref (ad_35 (200 + 2 * zn (u 0 8)))]) (rest := []) X hW hl.1 md_X9_keep ms_X9_130 dX9_forge_89 (zc_s100 hS) rfl rfl rfl (by rw [(had_35 100 (by omega) (by omega))] <;> rfl) (Nat.le_of_ble_eq_true rfl) ⟨Nat.le_of_ble_eq_true rfl, Nat.le_of_ble_eq_true rfl⟩ ⟨Nat.le_of_ble_eq_true rfl, Nat.le_of_ble_eq_true rfl⟩ (c_X9_keep_5 l Y N0 ad_35 sh_36 g_40 hS (u 0 8) ((show g_40 100 8 = g_39 100 8 from (by rw [hg_40]; exact zm_wn _ _ (Or.inl (by omega)))).trans ((show g_39 100 8 = g_38 100 8 from (by rw [hg_39]; exact zm_wn _ _ (Or.inl (by omega)))).trans ((show g_38 100 8 = g_37 100 8 from (by rw [hg_38]; exact zm_wn _ _ (Or.inl (by omega)))).trans ((show g_37 100 8 = g 100 8 from (by rw [hg_37, va_up_ne _ _ (by omega)])).trans (hN0 _ _ _ _ rfl))))) h8 (show sh_36 107 = some (.inr (3, 150, some (zc_sf (zn (u 0 8))))) from (by rw [hsh_36]; exact (va_up_ne _ _ (by omega)).trans hR.2.2.2.2.1)) (show sh_36 (200 + 2 * zn (u 0 8)) = some (.inl (5, [none, none, none])) from (by rw [hsh_36]; exact va_up_self _ _ _))) (fun v9 ad9 sh9 g9 H locs hp hW => ?_)
                  obtain ⟨rfl, rfl, rfl, rfl⟩ := hp
                  obtain ⟨sh_41, hsh_41⟩ : ∃ z : Nat → Option zw_Sh, z = va_up sh_36 107 (some (.inr (3, 150, some (zc_sf (zn (u 0 8) + 1))))) := ⟨_, rfl⟩
                  obtain ⟨g_42, hg_42⟩ : ∃ z : zm_T, z = zm_w g_40 100 8 (u 0 8 + 1) := ⟨_, rfl⟩
                  rw [← hsh_41, ← hg_42] at hW
                  have hN9 : zc_N g_42 (zs_mk u (zs_v 1 key cn (-1) b 0 0 0 0 0)) := by
                    have e : u 0 8 = u 0 8 := by rfl
                    rw [hg_42, ← e]; exact zc_Nmk hN _
                  have e8 : zn (u 0 8) = zn (u 0 8) := by rfl
                  have hu9 : ∀ r i : Nat, (r = 20 ∨ r = 22 ∨ r = 23 ∨ r = 24 ∨ r = 29 ∨ (r = 0 ∧ i = 28) ∨ (9 ≤ r ∧ r ≤ 18 ∧ i ≠ zn (u 0 8))) → zs_mk u (zs_v 1 key cn (-1) b 0 0 0 0 0) r i = u r i := fun r i h => by
                    rw [zs_mku u _ r i (by rw [e8]; exact h)]
                  have hvv : ∀ r : Nat, 9 ≤ r ∧ r ≤ 18 → zs_mk u (zs_v 1 key cn (-1) b 0 0 0 0 0) r (zn (u 0 8)) = (zs_v 1 key cn (-1) b 0 0 0 0 0) r := fun r h => by rw [← e8]; exact zs_mkn u _ h
                  have hsl9 : zc_sl sh_41 g_42 (zs_mk u (zs_v 1 key cn (-1) b 0 0 0 0 0)) (zn (u 0 8)) := by
                    unfold zc_sl
                    rw [hvv 9 (by decide), hvv 10 (by decide), hvv 11 (by decide), hvv 12 (by decide), hvv 13 (by decide), hvv 14 (by decide), hvv 15 (by decide), hvv 16 (by decide), hvv 17 (by decide), hvv 18 (by decide)]
                    exact ⟨fun _ => ⟨(show sh_41 (200 + 2 * zn (u 0 8)) = some (.inl (5, [none, none, none])) from (by rw [hsh_41]; exact (va_up_ne _ _ (by omega)).trans (show sh_36 (200 + 2 * zn (u 0 8)) = some (.inl (5, [none, none, none])) from (by rw [hsh_36]; exact va_up_self _ _ _)))), ((show g_42 (200 + 2 * zn (u 0 8)) 0 = g_40 (200 + 2 * zn (u 0 8)) 0 from (by rw [hg_42, zm_wn _ _ (Or.inl (by omega))])).trans ((show g_40 (200 + 2 * zn (u 0 8)) 0 = g_39 (200 + 2 * zn (u 0 8)) 0 from (by rw [hg_40]; exact zm_wn _ _ (Or.inr (by decide)))).trans ((show g_39 (200 + 2 * zn (u 0 8)) 0 = g_38 (200 + 2 * zn (u 0 8)) 0 from (by rw [hg_39]; exact zm_wn _ _ (Or.inr (by decide)))).trans (show g_38 (200 + 2 * zn (u 0 8)) 0 = key from (by rw [hg_38]; exact zm_ws _ _ _ _))))), ((show g_42 (200 + 2 * zn (u 0 8)) 1 = g_40 (200 + 2 * zn (u 0 8)) 1 from (by rw [hg_42, zm_wn _ _ (Or.inl (by omega))])).trans ((show g_40 (200 + 2 * zn (u 0 8)) 1 = g_39 (200 + 2 * zn (u 0 8)) 1 from (by rw [hg_40]; exact zm_wn _ _ (Or.inr (by decide)))).trans (show g_39 (200 + 2 * zn (u 0 8)) 1 = cn from (by rw [hg_39]; exact zm_ws _ _ _ _)))), ((show g_42 (200 + 2 * zn (u 0 8)) 2 = g_40 (200 + 2 * zn (u 0 8)) 2 from (by rw [hg_42, zm_wn _ _ (Or.inl (by omega))])).trans (show g_40 (200 + 2 * zn (u 0 8)) 2 = b from (by rw [hg_40]; exact zm_ws _ _ _ _)))⟩, fun h => absurd (show (1 : Int32).toInt = 2 from h) (by decide), fun h => absurd (show (1 : Int32).toInt = 3 from h) (by decide), fun h => absurd (show (1 : Int32).toInt = 4 from h) (by decide)⟩
                  have hz9 : zn (zs_mk u (zs_v 1 key cn (-1) b 0 0 0 0 0) 0 8) = zn (u 0 8) + 1 := by have q9 := zs_mkz (u := u) (by exact h8) (zs_v 1 key cn (-1) b 0 0 0 0 0); rw [q9, e8]
                  have hR9 : zc_R sh_41 g_42 (zs_mk u (zs_v 1 key cn (-1) b 0 0 0 0 0)) := zc_add (n := (zn (u 0 8))) hR rfl hz9 hN9 hu9 (show sh_41 107 = some (.inr (3, 150, some (zc_sf (zn (u 0 8) + 1)))) from (by rw [hsh_41]; exact va_up_self _ _ _)) (fun r h1 h2 h3 => by rw [hsh_41, va_up_ne _ _ (by omega), hsh_36, va_up_ne _ _ (by omega)]) (fun r h1 h2 h3 => by rw [hg_42, zm_wr (by omega), hg_40, zm_wr (by omega), hg_39, zm_wr (by omega), hg_38, zm_wr (by omega), hg_37, va_up_ne _ _ (by omega)]) (fun j hj => by rw [hg_42, zm_wn _ _ (by omega), hg_40, zm_wn _ _ (by omega), hg_39, zm_wn _ _ (by omega), hg_38, zm_wn _ _ (by omega), hg_37, va_up_ne _ _ (by omega)]) hsl9
                  have hf9 : zc_fr ad sh g ad_35 sh_41 g_42 := ⟨fun r hr => had_35 r (by omega) (by omega), fun r hr => ⟨by rw [hsh_41, va_up_ne _ _ (by omega), hsh_36, va_up_ne _ _ (by omega)], by rw [hg_42, zm_wr (by omega), hg_40, zm_wr (by omega), hg_39, zm_wr (by omega), hg_38, zm_wr (by omega), hg_37, va_up_ne _ _ (by omega)]⟩⟩
                  exact zr_iret X hW dX9_forge_92 (Nat.le_of_ble_eq_true rfl) (Nat.le_of_ble_eq_true rfl) ⟨by rw [hsp], by rw [hsp]; exact hR9, hf9⟩
                · have hsp : sp_forge key k cn a b u = (u 0 8, zs_mk u (zs_v 4 key cn (-1) b 0 0 (a &&& 3) ((a >>> ((2 : Int32) &&& 31) &&& 3) - (a >>> ((2 : Int32) &&& 31) &&& 3) / 3 * 3) (a >>> ((4 : Int32) &&& 31)))) := (by unfold sp_forge; (repeat (first | refine (if_pos (by omega)).trans ?_ | refine (if_neg (by omega)).trans ?_)); exact congrArg (fun z => ((u 0 8, zs_mk u z) : Int32 × zm_T)) (by (repeat (first | refine (if_pos (by omega)).trans ?_ | refine (if_neg (by omega)).trans ?_)); rfl))
                  have hc9 : k = 4 := zi_ext hc9
                  subst hc9
                  refine lv_aload_n X.1 X.2.1 dX9_forge_78 rfl (lv_at hl 1 rfl) ?_
                  refine lv_iload_n X.1 X.2.1 dX9_forge_79 rfl (lv_at hl 2 rfl) ?_
                  refine lv_iload_n X.1 X.2.1 dX9_forge_80 rfl (lv_at hl 3 rfl) ?_
                  refine lv_iload_n X.1 X.2.1 dX9_forge_81 rfl (lv_at hl 4 rfl) ?_
                  refine lv_iload X.1 X.2.1 dX9_forge_82 (lv_at hl 5 rfl) ?_
                  refine lv_iload X.1 X.2.1 dX9_forge_84 (lv_at hl 6 rfl) ?_
                  refine zr_callS (As := [.int key, .int 4, .int cn, .int a, .int b]) (rest := [.ref (ad 100)]) X hW hl.1 md_X9_forgedSeal ms_X9_276 dX9_forge_86 rfl rfl (Nat.le_of_ble_eq_true rfl) ⟨Nat.le_of_ble_eq_true rfl, Nat.le_of_ble_eq_true rfl⟩ ⟨Nat.le_of_ble_eq_true rfl, Nat.le_of_ble_eq_true rfl⟩ (c_X9_forgedSeal_4 l Y N0 ad sh g hS (zn (u 0 8)) (hR.2.2.2.2.2.2.1 (200 + 2 * zn (u 0 8)) (by omega)) (hR.2.2.2.2.2.2.1 (201 + 2 * zn (u 0 8)) (by omega)) key cn a b) (fun v9 ad9 sh9 g9 H locs hp hW => ?_)
                  obtain ⟨rfl, had9, hsh9, hg9⟩ := hp
                  obtain ⟨ad_43, rfl⟩ : ∃ z : Nat → Nat, z = ad9 := ⟨_, rfl⟩
                  have had_43 : ∀ r : Nat, r ≠ (200 + 2 * zn (u 0 8)) → r ≠ (201 + 2 * zn (u 0 8)) → ad_43 r = ad r := fun r h1 h2 => had9 r h1 h2
                  obtain ⟨sh_44, hsh_44⟩ : ∃ z : Nat → Option zw_Sh, z = va_up sh (200 + 2 * zn (u 0 8)) (some (.inl (1, [none, none, none, none, some none]))) := ⟨_, rfl⟩
                  have hS : zc_S sh_44 := by rw [hsh_44]; exact zc_S200 (by omega) hS
                  obtain ⟨g_45, hg_45⟩ : ∃ z : zm_T, z = va_up g (200 + 2 * zn (u 0 8)) (fun _ => 0) := ⟨_, rfl⟩
                  have hN : zc_N g_45 u := by rw [hg_45]; exact zc_Nv hN (by omega)
                  obtain ⟨sh_46, hsh_46⟩ : ∃ z : Nat → Option zw_Sh, z = va_up sh_44 (201 + 2 * zn (u 0 8)) (some (.inl (3, [none, none, none]))) := ⟨_, rfl⟩
                  have hS : zc_S sh_46 := by rw [hsh_46]; exact zc_S200 (by omega) hS
                  obtain ⟨g_47, hg_47⟩ : ∃ z : zm_T, z = va_up g_45 (201 + 2 * zn (u 0 8)) (fun _ => 0) := ⟨_, rfl⟩
                  have hN : zc_N g_47 u := by rw [hg_47]; exact zc_Nv hN (by omega)
                  obtain ⟨g_48, hg_48⟩ : ∃ z : zm_T, z = zm_w g_47 (201 + 2 * zn (u 0 8)) 0 ((a &&& 3)) := ⟨_, rfl⟩
                  have hN : zc_N g_48 u := by rw [hg_48]; exact zc_Nc hN (zc_lm200 (by omega)) _
                  obtain ⟨g_49, hg_49⟩ : ∃ z : zm_T, z = zm_w g_48 (201 + 2 * zn (u 0 8)) 1 (((a >>> ((2 : Int32) &&& 31) &&& 3) - (a >>> ((2 : Int32) &&& 31) &&& 3) / 3 * 3)) := ⟨_, rfl⟩
                  have hN : zc_N g_49 u := by rw [hg_49]; exact zc_Nc hN (zc_lm200 (by omega)) _
                  obtain ⟨g_50, hg_50⟩ : ∃ z : zm_T, z = zm_w g_49 (201 + 2 * zn (u 0 8)) 2 ((a >>> ((4 : Int32) &&& 31))) := ⟨_, rfl⟩
                  have hN : zc_N g_50 u := by rw [hg_50]; exact zc_Nc hN (zc_lm200 (by omega)) _
                  obtain ⟨g_51, hg_51⟩ : ∃ z : zm_T, z = zm_w g_50 (200 + 2 * zn (u 0 8)) 0 key := ⟨_, rfl⟩
                  have hN : zc_N g_51 u := by rw [hg_51]; exact zc_Nc hN (zc_lm200 (by omega)) _
                  obtain ⟨g_52, hg_52⟩ : ∃ z : zm_T, z = zm_w g_51 (200 + 2 * zn (u 0 8)) 1 cn := ⟨_, rfl⟩
                  have hN : zc_N g_52 u := by rw [hg_52]; exact zc_Nc hN (zc_lm200 (by omega)) _
                  obtain ⟨g_53, hg_53⟩ : ∃ z : zm_T, z = zm_w g_52 (200 + 2 * zn (u 0 8)) 2 b := ⟨_, rfl⟩
                  have hN : zc_N g_53 u := by rw [hg_53]; exact zc_Nc hN (zc_lm200 (by omega)) _
                  obtain ⟨g_54, hg_54⟩ : ∃ z : zm_T, z = zm_w g_53 (200 + 2 * zn (u 0 8)) 3 0 := ⟨_, rfl⟩
                  have hN : zc_N g_54 u := by rw [hg_54]; exact zc_Nc hN (zc_lm200 (by omega)) _
                  obtain ⟨sh_55, hsh_55⟩ : ∃ z : Nat → Option zw_Sh, z = va_up sh_46 (200 + 2 * zn (u 0 8)) (some (.inl (1, [none, none, none, none, some (some (201 + 2 * zn (u 0 8)))]))) := ⟨_, rfl⟩
                  have hS : zc_S sh_55 := by rw [hsh_55]; exact zc_S200 (by omega) hS
                  rw [hsh9, hg9] at hW
                  rw [← hsh_44, ← hsh_46, ← hsh_55, ← hg_45, ← hg_47, ← hg_48, ← hg_49, ← hg_50, ← hg_51, ← hg_52, ← hg_53, ← hg_54] at hW
                  refine zr_callV (As := [.ref (ad_43 (200 + 2 * zn (u 0 8)))]) (rest := []) X hW hl.1 md_X9_keep ms_X9_130 dX9_forge_89 (zc_s100 hS) rfl rfl rfl (by rw [(had_43 100 (by omega) (by omega))] <;> rfl) (Nat.le_of_ble_eq_true rfl) ⟨Nat.le_of_ble_eq_true rfl, Nat.le_of_ble_eq_true rfl⟩ ⟨Nat.le_of_ble_eq_true rfl, Nat.le_of_ble_eq_true rfl⟩ (c_X9_keep_1 l Y N0 ad_43 sh_55 g_54 hS (u 0 8) ((show g_54 100 8 = g_53 100 8 from (by rw [hg_54]; exact zm_wn _ _ (Or.inl (by omega)))).trans ((show g_53 100 8 = g_52 100 8 from (by rw [hg_53]; exact zm_wn _ _ (Or.inl (by omega)))).trans ((show g_52 100 8 = g_51 100 8 from (by rw [hg_52]; exact zm_wn _ _ (Or.inl (by omega)))).trans ((show g_51 100 8 = g_50 100 8 from (by rw [hg_51]; exact zm_wn _ _ (Or.inl (by omega)))).trans ((show g_50 100 8 = g_49 100 8 from (by rw [hg_50]; exact zm_wn _ _ (Or.inl (by omega)))).trans ((show g_49 100 8 = g_48 100 8 from (by rw [hg_49]; exact zm_wn _ _ (Or.inl (by omega)))).trans ((show g_48 100 8 = g_47 100 8 from (by rw [hg_48]; exact zm_wn _ _ (Or.inl (by omega)))).trans ((show g_47 100 8 = g_45 100 8 from (by rw [hg_47, va_up_ne _ _ (by omega)])).trans ((show g_45 100 8 = g 100 8 from (by rw [hg_45, va_up_ne _ _ (by omega)])).trans (hN0 _ _ _ _ rfl)))))))))) h8 (show sh_55 107 = some (.inr (3, 150, some (zc_sf (zn (u 0 8))))) from (by rw [hsh_55]; exact (va_up_ne _ _ (by omega)).trans (show sh_46 107 = some (.inr (3, 150, some (zc_sf (zn (u 0 8))))) from (by rw [hsh_46]; exact (va_up_ne _ _ (by omega)).trans (show sh_44 107 = some (.inr (3, 150, some (zc_sf (zn (u 0 8))))) from (by rw [hsh_44]; exact (va_up_ne _ _ (by omega)).trans hR.2.2.2.2.1)))))) (show sh_55 (200 + 2 * zn (u 0 8)) = some (.inl (1, [none, none, none, none, some (some (201 + 2 * zn (u 0 8)))])) from (by rw [hsh_55]; exact va_up_self _ _ _))) (fun v9 ad9 sh9 g9 H locs hp hW => ?_)
                  obtain ⟨rfl, rfl, rfl, rfl⟩ := hp
                  obtain ⟨sh_56, hsh_56⟩ : ∃ z : Nat → Option zw_Sh, z = va_up sh_55 107 (some (.inr (3, 150, some (zc_sf (zn (u 0 8) + 1))))) := ⟨_, rfl⟩
                  obtain ⟨g_57, hg_57⟩ : ∃ z : zm_T, z = zm_w g_54 100 8 (u 0 8 + 1) := ⟨_, rfl⟩
                  rw [← hsh_56, ← hg_57] at hW
                  have hN9 : zc_N g_57 (zs_mk u (zs_v 4 key cn (-1) b 0 0 (a &&& 3) ((a >>> ((2 : Int32) &&& 31) &&& 3) - (a >>> ((2 : Int32) &&& 31) &&& 3) / 3 * 3) (a >>> ((4 : Int32) &&& 31)))) := by
                    have e : u 0 8 = u 0 8 := by rfl
                    rw [hg_57, ← e]; exact zc_Nmk hN _
                  have e8 : zn (u 0 8) = zn (u 0 8) := by rfl
                  have hu9 : ∀ r i : Nat, (r = 20 ∨ r = 22 ∨ r = 23 ∨ r = 24 ∨ r = 29 ∨ (r = 0 ∧ i = 28) ∨ (9 ≤ r ∧ r ≤ 18 ∧ i ≠ zn (u 0 8))) → zs_mk u (zs_v 4 key cn (-1) b 0 0 (a &&& 3) ((a >>> ((2 : Int32) &&& 31) &&& 3) - (a >>> ((2 : Int32) &&& 31) &&& 3) / 3 * 3) (a >>> ((4 : Int32) &&& 31))) r i = u r i := fun r i h => by
                    rw [zs_mku u _ r i (by rw [e8]; exact h)]
                  have hvv : ∀ r : Nat, 9 ≤ r ∧ r ≤ 18 → zs_mk u (zs_v 4 key cn (-1) b 0 0 (a &&& 3) ((a >>> ((2 : Int32) &&& 31) &&& 3) - (a >>> ((2 : Int32) &&& 31) &&& 3) / 3 * 3) (a >>> ((4 : Int32) &&& 31))) r (zn (u 0 8)) = (zs_v 4 key cn (-1) b 0 0 (a &&& 3) ((a >>> ((2 : Int32) &&& 31) &&& 3) - (a >>> ((2 : Int32) &&& 31) &&& 3) / 3 * 3) (a >>> ((4 : Int32) &&& 31))) r := fun r h => by rw [← e8]; exact zs_mkn u _ h
                  have hsl9 : zc_sl sh_56 g_57 (zs_mk u (zs_v 4 key cn (-1) b 0 0 (a &&& 3) ((a >>> ((2 : Int32) &&& 31) &&& 3) - (a >>> ((2 : Int32) &&& 31) &&& 3) / 3 * 3) (a >>> ((4 : Int32) &&& 31)))) (zn (u 0 8)) := by
                    unfold zc_sl
                    rw [hvv 9 (by decide), hvv 10 (by decide), hvv 11 (by decide), hvv 12 (by decide), hvv 13 (by decide), hvv 14 (by decide), hvv 15 (by decide), hvv 16 (by decide), hvv 17 (by decide), hvv 18 (by decide)]
                    exact ⟨fun h => absurd (show (4 : Int32).toInt = 1 from h) (by decide), fun h => absurd (show (4 : Int32).toInt = 2 from h) (by decide), fun h => absurd (show (4 : Int32).toInt = 3 from h) (by decide), fun _ => ⟨(show sh_56 (200 + 2 * zn (u 0 8)) = some (.inl (1, [none, none, none, none, some (some (201 + 2 * zn (u 0 8)))])) from (by rw [hsh_56]; exact (va_up_ne _ _ (by omega)).trans (show sh_55 (200 + 2 * zn (u 0 8)) = some (.inl (1, [none, none, none, none, some (some (201 + 2 * zn (u 0 8)))])) from (by rw [hsh_55]; exact va_up_self _ _ _)))), (show sh_56 (201 + 2 * zn (u 0 8)) = some (.inl (3, [none, none, none])) from (by rw [hsh_56]; exact (va_up_ne _ _ (by omega)).trans (show sh_55 (201 + 2 * zn (u 0 8)) = some (.inl (3, [none, none, none])) from (by rw [hsh_55]; exact (va_up_ne _ _ (by omega)).trans (show sh_46 (201 + 2 * zn (u 0 8)) = some (.inl (3, [none, none, none])) from (by rw [hsh_46]; exact va_up_self _ _ _)))))), ((show g_57 (200 + 2 * zn (u 0 8)) 0 = g_54 (200 + 2 * zn (u 0 8)) 0 from (by rw [hg_57, zm_wn _ _ (Or.inl (by omega))])).trans ((show g_54 (200 + 2 * zn (u 0 8)) 0 = g_53 (200 + 2 * zn (u 0 8)) 0 from (by rw [hg_54]; exact zm_wn _ _ (Or.inr (by decide)))).trans ((show g_53 (200 + 2 * zn (u 0 8)) 0 = g_52 (200 + 2 * zn (u 0 8)) 0 from (by rw [hg_53]; exact zm_wn _ _ (Or.inr (by decide)))).trans ((show g_52 (200 + 2 * zn (u 0 8)) 0 = g_51 (200 + 2 * zn (u 0 8)) 0 from (by rw [hg_52]; exact zm_wn _ _ (Or.inr (by decide)))).trans (show g_51 (200 + 2 * zn (u 0 8)) 0 = key from (by rw [hg_51]; exact zm_ws _ _ _ _)))))), ((show g_57 (200 + 2 * zn (u 0 8)) 1 = g_54 (200 + 2 * zn (u 0 8)) 1 from (by rw [hg_57, zm_wn _ _ (Or.inl (by omega))])).trans ((show g_54 (200 + 2 * zn (u 0 8)) 1 = g_53 (200 + 2 * zn (u 0 8)) 1 from (by rw [hg_54]; exact zm_wn _ _ (Or.inr (by decide)))).trans ((show g_53 (200 + 2 * zn (u 0 8)) 1 = g_52 (200 + 2 * zn (u 0 8)) 1 from (by rw [hg_53]; exact zm_wn _ _ (Or.inr (by decide)))).trans (show g_52 (200 + 2 * zn (u 0 8)) 1 = cn from (by rw [hg_52]; exact zm_ws _ _ _ _))))), ((show g_57 (200 + 2 * zn (u 0 8)) 2 = g_54 (200 + 2 * zn (u 0 8)) 2 from (by rw [hg_57, zm_wn _ _ (Or.inl (by omega))])).trans ((show g_54 (200 + 2 * zn (u 0 8)) 2 = g_53 (200 + 2 * zn (u 0 8)) 2 from (by rw [hg_54]; exact zm_wn _ _ (Or.inr (by decide)))).trans (show g_53 (200 + 2 * zn (u 0 8)) 2 = b from (by rw [hg_53]; exact zm_ws _ _ _ _)))), ((show g_57 (200 + 2 * zn (u 0 8)) 3 = g_54 (200 + 2 * zn (u 0 8)) 3 from (by rw [hg_57, zm_wn _ _ (Or.inl (by omega))])).trans (show g_54 (200 + 2 * zn (u 0 8)) 3 = 0 from (by rw [hg_54]; exact zm_ws _ _ _ _))), ((show g_57 (201 + 2 * zn (u 0 8)) 0 = g_54 (201 + 2 * zn (u 0 8)) 0 from (by rw [hg_57, zm_wn _ _ (Or.inl (by omega))])).trans ((show g_54 (201 + 2 * zn (u 0 8)) 0 = g_53 (201 + 2 * zn (u 0 8)) 0 from (by rw [hg_54]; exact zm_wn _ _ (Or.inl (by omega)))).trans ((show g_53 (201 + 2 * zn (u 0 8)) 0 = g_52 (201 + 2 * zn (u 0 8)) 0 from (by rw [hg_53]; exact zm_wn _ _ (Or.inl (by omega)))).trans ((show g_52 (201 + 2 * zn (u 0 8)) 0 = g_51 (201 + 2 * zn (u 0 8)) 0 from (by rw [hg_52]; exact zm_wn _ _ (Or.inl (by omega)))).trans ((show g_51 (201 + 2 * zn (u 0 8)) 0 = g_50 (201 + 2 * zn (u 0 8)) 0 from (by rw [hg_51]; exact zm_wn _ _ (Or.inl (by omega)))).trans ((show g_50 (201 + 2 * zn (u 0 8)) 0 = g_49 (201 + 2 * zn (u 0 8)) 0 from (by rw [hg_50]; exact zm_wn _ _ (Or.inr (by decide)))).trans ((show g_49 (201 + 2 * zn (u 0 8)) 0 = g_48 (201 + 2 * zn (u 0 8)) 0 from (by rw [hg_49]; exact zm_wn _ _ (Or.inr (by decide)))).trans (show g_48 (201 + 2 * zn (u 0 8)) 0 = (a &&& 3) from (by rw [hg_48]; exact zm_ws _ _ _ _))))))))), ((show g_57 (201 + 2 * zn (u 0 8)) 1 = g_54 (201 + 2 * zn (u 0 8)) 1 from (by rw [hg_57, zm_wn _ _ (Or.inl (by omega))])).trans ((show g_54 (201 + 2 * zn (u 0 8)) 1 = g_53 (201 + 2 * zn (u 0 8)) 1 from (by rw [hg_54]; exact zm_wn _ _ (Or.inl (by omega)))).trans ((show g_53 (201 + 2 * zn (u 0 8)) 1 = g_52 (201 + 2 * zn (u 0 8)) 1 from (by rw [hg_53]; exact zm_wn _ _ (Or.inl (by omega)))).trans ((show g_52 (201 + 2 * zn (u 0 8)) 1 = g_51 (201 + 2 * zn (u 0 8)) 1 from (by rw [hg_52]; exact zm_wn _ _ (Or.inl (by omega)))).trans ((show g_51 (201 + 2 * zn (u 0 8)) 1 = g_50 (201 + 2 * zn (u 0 8)) 1 from (by rw [hg_51]; exact zm_wn _ _ (Or.inl (by omega)))).trans ((show g_50 (201 + 2 * zn (u 0 8)) 1 = g_49 (201 + 2 * zn (u 0 8)) 1 from (by rw [hg_50]; exact zm_wn _ _ (Or.inr (by decide)))).trans (show g_49 (201 + 2 * zn (u 0 8)) 1 = ((a >>> ((2 : Int32) &&& 31) &&& 3) - (a >>> ((2 : Int32) &&& 31) &&& 3) / 3 * 3) from (by rw [hg_49]; exact zm_ws _ _ _ _)))))))), ((show g_57 (201 + 2 * zn (u 0 8)) 2 = g_54 (201 + 2 * zn (u 0 8)) 2 from (by rw [hg_57, zm_wn _ _ (Or.inl (by omega))])).trans ((show g_54 (201 + 2 * zn (u 0 8)) 2 = g_53 (201 + 2 * zn (u 0 8)) 2 from (by rw [hg_54]; exact zm_wn _ _ (Or.inl (by omega)))).trans ((show g_53 (201 + 2 * zn (u 0 8)) 2 = g_52 (201 + 2 * zn (u 0 8)) 2 from (by rw [hg_53]; exact zm_wn _ _ (Or.inl (by omega)))).trans ((show g_52 (201 + 2 * zn (u 0 8)) 2 = g_51 (201 + 2 * zn (u 0 8)) 2 from (by rw [hg_52]; exact zm_wn _ _ (Or.inl (by omega)))).trans ((show g_51 (201 + 2 * zn (u 0 8)) 2 = g_50 (201 + 2 * zn (u 0 8)) 2 from (by rw [hg_51]; exact zm_wn _ _ (Or.inl (by omega)))).trans (show g_50 (201 + 2 * zn (u 0 8)) 2 = (a >>> ((4 : Int32) &&& 31)) from (by rw [hg_50]; exact zm_ws _ _ _ _)))))))⟩⟩
                  have hz9 : zn (zs_mk u (zs_v 4 key cn (-1) b 0 0 (a &&& 3) ((a >>> ((2 : Int32) &&& 31) &&& 3) - (a >>> ((2 : Int32) &&& 31) &&& 3) / 3 * 3) (a >>> ((4 : Int32) &&& 31))) 0 8) = zn (u 0 8) + 1 := by have q9 := zs_mkz (u := u) (by exact h8) (zs_v 4 key cn (-1) b 0 0 (a &&& 3) ((a >>> ((2 : Int32) &&& 31) &&& 3) - (a >>> ((2 : Int32) &&& 31) &&& 3) / 3 * 3) (a >>> ((4 : Int32) &&& 31))); rw [q9, e8]
                  have hR9 : zc_R sh_56 g_57 (zs_mk u (zs_v 4 key cn (-1) b 0 0 (a &&& 3) ((a >>> ((2 : Int32) &&& 31) &&& 3) - (a >>> ((2 : Int32) &&& 31) &&& 3) / 3 * 3) (a >>> ((4 : Int32) &&& 31)))) := zc_add (n := (zn (u 0 8))) hR rfl hz9 hN9 hu9 (show sh_56 107 = some (.inr (3, 150, some (zc_sf (zn (u 0 8) + 1)))) from (by rw [hsh_56]; exact va_up_self _ _ _)) (fun r h1 h2 h3 => by rw [hsh_56, va_up_ne _ _ (by omega), hsh_55, va_up_ne _ _ (by omega), hsh_46, va_up_ne _ _ (by omega), hsh_44, va_up_ne _ _ (by omega)]) (fun r h1 h2 h3 => by rw [hg_57, zm_wr (by omega), hg_54, zm_wr (by omega), hg_53, zm_wr (by omega), hg_52, zm_wr (by omega), hg_51, zm_wr (by omega), hg_50, zm_wr (by omega), hg_49, zm_wr (by omega), hg_48, zm_wr (by omega), hg_47, va_up_ne _ _ (by omega), hg_45, va_up_ne _ _ (by omega)]) (fun j hj => by rw [hg_57, zm_wn _ _ (by omega), hg_54, zm_wn _ _ (by omega), hg_53, zm_wn _ _ (by omega), hg_52, zm_wn _ _ (by omega), hg_51, zm_wn _ _ (by omega), hg_50, zm_wn _ _ (by omega), hg_49, zm_wn _ _ (by omega), hg_48, zm_wn _ _ (by omega), hg_47, va_up_ne _ _ (by omega), hg_45, va_up_ne _ _ (by omega)]) hsl9
                  have hf9 : zc_fr ad sh g ad_43 sh_56 g_57 := ⟨fun r hr => had_43 r (by omega) (by omega), fun r hr => ⟨by rw [hsh_56, va_up_ne _ _ (by omega), hsh_55, va_up_ne _ _ (by omega), hsh_46, va_up_ne _ _ (by omega), hsh_44, va_up_ne _ _ (by omega)], by rw [hg_57, zm_wr (by omega), hg_54, zm_wr (by omega), hg_53, zm_wr (by omega), hg_52, zm_wr (by omega), hg_51, zm_wr (by omega), hg_50, zm_wr (by omega), hg_49, zm_wr (by omega), hg_48, zm_wr (by omega), hg_47, va_up_ne _ _ (by omega), hg_45, va_up_ne _ _ (by omega)]⟩⟩
                  exact zr_iret X hW dX9_forge_92 (Nat.le_of_ble_eq_true rfl) (Nat.le_of_ble_eq_true rfl) ⟨by rw [hsp], by rw [hsp]; exact hR9, hf9⟩
              · subst h9
                have h_34 : ¬ ((u 0 2).toInt + 0 ≤ 200 ∧ (u 0 8).toInt + 1 ≤ 150) := h_34
                refine zr_if_ne (a := 0) (tgt := 78) X dX9_forge_72 (by decide) (by decide) (fun c9 => absurd c9 (by decide)) (fun _ => ?_)
                refine lv_bipush (v := (-7)) X.1 X.2.1 dX9_forge_75 (by decide) ?_
                have e9 : sp_forge key k cn a b u = ((-7), u) := (by unfold sp_forge; (repeat (first | refine (if_pos (by omega)).trans ?_ | refine (if_neg (by omega)).trans ?_)); rfl)
                exact zr_iret X hW dX9_forge_77 (Nat.le_of_ble_eq_true rfl) (Nat.le_of_ble_eq_true rfl) ⟨by rw [e9], by rw [e9]; exact hR, zc_fr0⟩
            · subst h9
              have h_33 : ¬ (zs_st u key) := h_33
              refine zr_if_eq (a := 0) (tgt := 63) X dX9_forge_46 (by decide) (by decide) (fun _ => ?_) (fun c9 => absurd c9 (by decide))
              refine lv_bipush (v := (-2)) X.1 X.2.1 dX9_forge_63 (by decide) ?_
              have e9 : sp_forge key k cn a b u = ((-2), u) := (by unfold sp_forge; (repeat (first | refine (if_pos (by omega)).trans ?_ | refine (if_neg (by omega)).trans ?_)); rfl)
              exact zr_iret X hW dX9_forge_65 (Nat.le_of_ble_eq_true rfl) (Nat.le_of_ble_eq_true rfl) ⟨by rw [e9], by rw [e9]; exact hR, zc_fr0⟩
        · subst h9
          have h_17 : ¬ (zi_in cn 0 5) := h_17
          refine zr_if_ne (a := 0) (tgt := 24) X dX9_forge_19 (by decide) (by decide) (fun c9 => absurd c9 (by decide)) (fun _ => ?_)
          refine lv_iconst (v := (-1)) X.1 X.2.1 dX9_forge_22 (by decide) ?_
          have e9 : sp_forge key k cn a b u = ((-1), u) := (by unfold sp_forge; (repeat (first | refine (if_pos (by omega)).trans ?_ | refine (if_neg (by omega)).trans ?_)); rfl)
          exact zr_iret X hW dX9_forge_23 (Nat.le_of_ble_eq_true rfl) (Nat.le_of_ble_eq_true rfl) ⟨by rw [e9], by rw [e9]; exact hR, zc_fr0⟩
