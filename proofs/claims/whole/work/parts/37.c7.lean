set_option maxHeartbeats 4000000 in
set_option maxRecDepth 100000 in
theorem c_X9_isUserInBook (l : Launch) (Y : zw_Y) (N0 : Nat) (ad : Nat → Nat) (sh : Nat → Option zw_Sh) (g u : zm_T) (hS : zc_S sh) (hN : zc_N g u) (hB : ∀ i : Nat, i < 12 → -1 ≤ (u 5 i).toInt) (a : Int32) : zw_Met l Y N0 yX9_isUserInBook cX9_isUserInBook 2 (some .boolean) 2 41 0 0 ad sh g [.ref (ad 100), .int a] (zp_B ad sh g (zs_us a ∧ zs_bk u a)) := by
  refine zw_meth (by decide) (Nat.le_of_ble_eq_true rfl) ?_
  intro p e s m below meth c ls X hnm hl hW
  have hl : lv_has ls 2 [(0, .ref (ad 100)), (1, .int a)] := hl
  have hN0 := hN
  refine lv_iload_n X.1 X.2.1 dX9_isUserInBook_0 rfl (lv_at hl 1 rfl) ?_
  refine zr_callS (As := [.int a]) (rest := []) X hW hl.1 md_X9_isUser ms_X9_302 dX9_isUserInBook_1 rfl rfl (Nat.le_of_ble_eq_true rfl) ⟨Nat.le_of_ble_eq_true rfl, Nat.le_of_ble_eq_true rfl⟩ ⟨Nat.le_of_ble_eq_true rfl, Nat.le_of_ble_eq_true rfl⟩ (c_X9_isUser l Y N0 ad sh g a) (fun v9 ad9 sh9 g9 H locs hp hW => ?_)
  rcases hp with ⟨rfl, rfl, rfl, ⟨h_1, h9⟩ | ⟨h_1, h9⟩⟩
  · subst h9
    have h_1 : zi_in a 2 5 := h_1
    refine zr_if_eq (a := 1) (tgt := 22) X dX9_isUserInBook_4 (by decide) (by decide) (fun c9 => absurd c9 (by decide)) (fun _ => ?_)
    refine lv_aload_n X.1 X.2.1 dX9_isUserInBook_7 rfl (lv_at hl 0 rfl) ?_
    refine zr_get (r := 100) (v := .ref (ad 103)) X hW fs_X9_19_8 dX9_isUserInBook_8 (zc_s100 hS) rfl rfl rfl ?_
    refine lv_iload_n X.1 X.2.1 dX9_isUserInBook_11 rfl (lv_at hl 1 rfl) ?_
    refine zr_callV (As := [.int a]) (rest := []) X hW hl.1 md_X0_holds ms_X9_88 dX9_isUserInBook_12 (zc_s103 hS) rfl rfl rfl rfl (Nat.le_of_ble_eq_true rfl) ⟨Nat.le_of_ble_eq_true rfl, Nat.le_of_ble_eq_true rfl⟩ ⟨Nat.le_of_ble_eq_true rfl, Nat.le_of_ble_eq_true rfl⟩ (c_X0_holds_b l Y N0 ad sh g u hS hN hB a) (fun v9 ad9 sh9 g9 H locs hp hW => ?_)
    rcases hp with ⟨rfl, rfl, rfl, ⟨h_2, h9⟩ | ⟨h_2, h9⟩⟩
    · subst h9
      have h_2 : zs_bk u a := h_2
      refine zr_if_eq (a := 1) (tgt := 22) X dX9_isUserInBook_15 (by decide) (by decide) (fun c9 => absurd c9 (by decide)) (fun _ => ?_)
      refine lv_iconst (v := 1) X.1 X.2.1 dX9_isUserInBook_18 (by decide) ?_
      refine lv_goto (tgt := 23) X.1 X.2.1 dX9_isUserInBook_19 (by decide) ?_
      exact zr_zret X hW dX9_isUserInBook_23 (Nat.le_refl _) (Nat.le_refl _) rfl ⟨rfl, rfl, rfl, Or.inl ⟨by omega, rfl⟩⟩
    · subst h9
      have h_2 : ¬ (zs_bk u a) := h_2
      refine zr_if_eq (a := 0) (tgt := 22) X dX9_isUserInBook_15 (by decide) (by decide) (fun _ => ?_) (fun c9 => absurd c9 (by decide))
      refine lv_iconst (v := 0) X.1 X.2.1 dX9_isUserInBook_22 (by decide) ?_
      exact zr_zret X hW dX9_isUserInBook_23 (Nat.le_refl _) (Nat.le_refl _) rfl ⟨rfl, rfl, rfl, Or.inr ⟨by omega, rfl⟩⟩
  · subst h9
    have h_1 : ¬ (zi_in a 2 5) := h_1
    refine zr_if_eq (a := 0) (tgt := 22) X dX9_isUserInBook_4 (by decide) (by decide) (fun _ => ?_) (fun c9 => absurd c9 (by decide))
    refine lv_iconst (v := 0) X.1 X.2.1 dX9_isUserInBook_22 (by decide) ?_
    exact zr_zret X hW dX9_isUserInBook_23 (Nat.le_refl _) (Nat.le_refl _) rfl ⟨rfl, rfl, rfl, Or.inr ⟨by omega, rfl⟩⟩

set_option maxHeartbeats 4000000 in
set_option maxRecDepth 100000 in
theorem c_X9_isTargetInBook (l : Launch) (Y : zw_Y) (N0 : Nat) (ad : Nat → Nat) (sh : Nat → Option zw_Sh) (g u : zm_T) (hS : zc_S sh) (hN : zc_N g u) (hB : ∀ i : Nat, i < 12 → -1 ≤ (u 5 i).toInt) (a : Int32) : zw_Met l Y N0 yX9_isTargetInBook cX9_isTargetInBook 2 (some .boolean) 2 41 0 0 ad sh g [.ref (ad 100), .int a] (zp_B ad sh g (zi_in a 0 1 ∧ zs_bk u a)) := by
  refine zw_meth (by decide) (Nat.le_of_ble_eq_true rfl) ?_
  intro p e s m below meth c ls X hnm hl hW
  have hl : lv_has ls 2 [(0, .ref (ad 100)), (1, .int a)] := hl
  have hN0 := hN
  refine lv_iload_n X.1 X.2.1 dX9_isTargetInBook_0 rfl (lv_at hl 1 rfl) ?_
  refine zr_callS (As := [.int a]) (rest := []) X hW hl.1 md_X9_isTarget ms_X9_116 dX9_isTargetInBook_1 rfl rfl (Nat.le_of_ble_eq_true rfl) ⟨Nat.le_of_ble_eq_true rfl, Nat.le_of_ble_eq_true rfl⟩ ⟨Nat.le_of_ble_eq_true rfl, Nat.le_of_ble_eq_true rfl⟩ (c_X9_isTarget l Y N0 ad sh g a) (fun v9 ad9 sh9 g9 H locs hp hW => ?_)
  rcases hp with ⟨rfl, rfl, rfl, ⟨h_1, h9⟩ | ⟨h_1, h9⟩⟩
  · subst h9
    have h_1 : zi_in a 0 1 := h_1
    refine zr_if_eq (a := 1) (tgt := 22) X dX9_isTargetInBook_4 (by decide) (by decide) (fun c9 => absurd c9 (by decide)) (fun _ => ?_)
    refine lv_aload_n X.1 X.2.1 dX9_isTargetInBook_7 rfl (lv_at hl 0 rfl) ?_
    refine zr_get (r := 100) (v := .ref (ad 103)) X hW fs_X9_19_8 dX9_isTargetInBook_8 (zc_s100 hS) rfl rfl rfl ?_
    refine lv_iload_n X.1 X.2.1 dX9_isTargetInBook_11 rfl (lv_at hl 1 rfl) ?_
    refine zr_callV (As := [.int a]) (rest := []) X hW hl.1 md_X0_holds ms_X9_88 dX9_isTargetInBook_12 (zc_s103 hS) rfl rfl rfl rfl (Nat.le_of_ble_eq_true rfl) ⟨Nat.le_of_ble_eq_true rfl, Nat.le_of_ble_eq_true rfl⟩ ⟨Nat.le_of_ble_eq_true rfl, Nat.le_of_ble_eq_true rfl⟩ (c_X0_holds_b l Y N0 ad sh g u hS hN hB a) (fun v9 ad9 sh9 g9 H locs hp hW => ?_)
    rcases hp with ⟨rfl, rfl, rfl, ⟨h_2, h9⟩ | ⟨h_2, h9⟩⟩
    · subst h9
      have h_2 : zs_bk u a := h_2
      refine zr_if_eq (a := 1) (tgt := 22) X dX9_isTargetInBook_15 (by decide) (by decide) (fun c9 => absurd c9 (by decide)) (fun _ => ?_)
      refine lv_iconst (v := 1) X.1 X.2.1 dX9_isTargetInBook_18 (by decide) ?_
      refine lv_goto (tgt := 23) X.1 X.2.1 dX9_isTargetInBook_19 (by decide) ?_
      exact zr_zret X hW dX9_isTargetInBook_23 (Nat.le_refl _) (Nat.le_refl _) rfl ⟨rfl, rfl, rfl, Or.inl ⟨by omega, rfl⟩⟩
    · subst h9
      have h_2 : ¬ (zs_bk u a) := h_2
      refine zr_if_eq (a := 0) (tgt := 22) X dX9_isTargetInBook_15 (by decide) (by decide) (fun _ => ?_) (fun c9 => absurd c9 (by decide))
      refine lv_iconst (v := 0) X.1 X.2.1 dX9_isTargetInBook_22 (by decide) ?_
      exact zr_zret X hW dX9_isTargetInBook_23 (Nat.le_refl _) (Nat.le_refl _) rfl ⟨rfl, rfl, rfl, Or.inr ⟨by omega, rfl⟩⟩
  · subst h9
    have h_1 : ¬ (zi_in a 0 1) := h_1
    refine zr_if_eq (a := 0) (tgt := 22) X dX9_isTargetInBook_4 (by decide) (by decide) (fun _ => ?_) (fun c9 => absurd c9 (by decide))
    refine lv_iconst (v := 0) X.1 X.2.1 dX9_isTargetInBook_22 (by decide) ?_
    exact zr_zret X hW dX9_isTargetInBook_23 (Nat.le_refl _) (Nat.le_refl _) rfl ⟨rfl, rfl, rfl, Or.inr ⟨by omega, rfl⟩⟩

set_option maxHeartbeats 4000000 in
set_option maxRecDepth 100000 in
theorem c_X9_isStolen (l : Launch) (Y : zw_Y) (N0 : Nat) (ad : Nat → Nat) (sh : Nat → Option zw_Sh) (g u : zm_T) (hS : zc_S sh) (hN : zc_N g u) (hI : zm_I u) (k : Int32) : zw_Met l Y N0 yX9_isStolen cX9_isStolen 2 (some .boolean) 0 0 0 0 ad sh g [.ref (ad 100), .int k] (zp_B ad sh g (zs_st u k)) := by
  refine zw_meth (by decide) (Nat.le_of_ble_eq_true rfl) ?_
  intro p e s m below meth c ls X hnm hl hW
  have hl : lv_has ls 2 [(0, .ref (ad 100)), (1, .int k)] := hl
  have hN0 := hN
  have hke := zI_ke hI
  refine lv_iload_n X.1 X.2.1 dX9_isStolen_0 rfl (lv_at hl 1 rfl) ?_
  refine zr_if_lt (a := (k).toInt) (tgt := 25) X dX9_isStolen_1 (by decide) rfl (fun c_1 => ?_) (fun c_1 => ?_)
  · refine lv_iconst (v := 0) X.1 X.2.1 dX9_isStolen_25 (by decide) ?_
    exact zr_zret X hW dX9_isStolen_26 (Nat.le_refl _) (Nat.le_refl _) rfl ⟨rfl, rfl, rfl, Or.inr ⟨by first | omega | (have h9 := zI_st hI (zn k) (by rw [zi_n]; omega); omega), rfl⟩⟩
  · refine lv_iload_n X.1 X.2.1 dX9_isStolen_4 rfl (lv_at hl 1 rfl) ?_
    refine lv_aload_n X.1 X.2.1 dX9_isStolen_5 rfl (lv_at hl 0 rfl) ?_
    refine zr_get (r := 100) (v := .int (u 0 2)) X hW fs_X9_53_8 dX9_isStolen_6 (zc_s100 hS) rfl rfl (congrArg Value.int (hN0 _ _ _ _ rfl)) ?_
    refine zr_icmp_ge (a := (k).toInt) (b := (u 0 2).toInt) (tgt := 25) X dX9_isStolen_9 (by decide) rfl rfl (fun c_2 => ?_) (fun c_2 => ?_)
    · refine lv_iconst (v := 0) X.1 X.2.1 dX9_isStolen_25 (by decide) ?_
      exact zr_zret X hW dX9_isStolen_26 (Nat.le_refl _) (Nat.le_refl _) rfl ⟨rfl, rfl, rfl, Or.inr ⟨by first | omega | (have h9 := zI_st hI (zn k) (by rw [zi_n]; omega); omega), rfl⟩⟩
    · refine lv_aload_n X.1 X.2.1 dX9_isStolen_12 rfl (lv_at hl 0 rfl) ?_
      refine zr_get (r := 100) (v := .ref (ad 108)) X hW fs_X9_49_8 dX9_isStolen_13 (zc_s100 hS) rfl rfl rfl ?_
      refine lv_iload_n X.1 X.2.1 dX9_isStolen_16 rfl (lv_at hl 1 rfl) ?_
      refine zr_zald (r := 108) (v := u 4 (zn k)) X hW dX9_isStolen_17 (zc_s108 hS) rfl rfl (zi_vp (by omega)) (hN0 _ _ _ _ (zc_l108 (zi_nl (by omega) (by decide)))) ?_
      refine zr_if_eq (a := (u 4 (zn k)).toInt) (tgt := 25) X dX9_isStolen_18 (by decide) rfl (fun c_3 => ?_) (fun c_3 => ?_)
      · refine lv_iconst (v := 0) X.1 X.2.1 dX9_isStolen_25 (by decide) ?_
        exact zr_zret X hW dX9_isStolen_26 (Nat.le_refl _) (Nat.le_refl _) rfl ⟨rfl, rfl, rfl, Or.inr ⟨by first | omega | (have h9 := zI_st hI (zn k) (by rw [zi_n]; omega); omega), rfl⟩⟩
      · refine lv_iconst (v := 1) X.1 X.2.1 dX9_isStolen_21 (by decide) ?_
        refine lv_goto (tgt := 26) X.1 X.2.1 dX9_isStolen_22 (by decide) ?_
        exact zr_zret X hW dX9_isStolen_26 (Nat.le_refl _) (Nat.le_refl _) rfl ⟨rfl, rfl, rfl, Or.inl ⟨by first | omega | (have h9 := zI_st hI (zn k) (by rw [zi_n]; omega); omega), rfl⟩⟩

theorem zs_nrab (x y : Int32) (k : Int) (hk : 0 ≤ k) : (zs_ab (x.toInt64 - y.toInt64)).toInt ≤ k ↔ (x.toInt - y.toInt ≤ k ∧ -k ≤ x.toInt - y.toInt) := by
  have h := zi_lsub x y
  have h1 := zi_rg x
  have h2 := zi_rg y
  unfold zs_ab
  split
  · rename_i hc
    rw [Int64.toInt_neg, h]
    rw [Int.bmod_eq_of_le (by omega) (by omega)]
    omega
  · rename_i hc
    rw [h] at hc ⊢
    omega

set_option maxHeartbeats 4000000 in
set_option maxRecDepth 100000 in
theorem c_X9_near (l : Launch) (Y : zw_Y) (N0 : Nat) (ad : Nat → Nat) (sh : Nat → Option zw_Sh) (g u : zm_T) (hS : zc_S sh) (hN : zc_N g u) (hI : zm_I u) (x y : Int32) : zw_Met l Y N0 yX9_near cX9_near 3 (some .boolean) 1 21 0 0 ad sh g [.ref (ad 100), .int x, .int y] (zp_B ad sh g (zs_nr u x y)) := by
  refine zw_meth (by decide) (Nat.le_of_ble_eq_true rfl) ?_
  intro p e s m below meth c ls X hnm hl hW
  have hl : lv_has ls 3 [(0, .ref (ad 100)), (1, .int x), (2, .int y)] := hl
  have hN0 := hN
  have hsk := zI_sk hI
  have hab := zs_nrab x y (u 0 0).toInt hsk.1
  refine lv_iload_n X.1 X.2.1 dX9_near_0 rfl (lv_at hl 1 rfl) ?_
  refine lv_i2l X.1 X.2.1 dX9_near_1 rfl ?_
  refine lv_iload_n X.1 X.2.1 dX9_near_2 rfl (lv_at hl 2 rfl) ?_
  refine lv_i2l X.1 X.2.1 dX9_near_3 rfl ?_
  refine lv_lsub X.1 X.2.1 dX9_near_4 ?_
  refine zr_abs X hl.1 (zt_in (zt_t2 126 rfl) rfl) dX9_near_5 (Nat.le_of_ble_eq_true rfl) (Nat.le_of_ble_eq_true rfl) (Nat.le_of_ble_eq_true rfl) (Nat.le_of_ble_eq_true rfl) (Nat.le_of_ble_eq_true rfl) ?_
  refine lv_aload_n X.1 X.2.1 dX9_near_8 rfl (lv_at hl 0 rfl) ?_
  refine zr_get (r := 100) (v := .int (u 0 0)) X hW fs_X9_68_8 dX9_near_9 (zc_s100 hS) rfl rfl (congrArg Value.int (hN0 _ _ _ _ rfl)) ?_
  refine lv_i2l X.1 X.2.1 dX9_near_12 rfl ?_
  refine W.lcmp X.1 X.2.1 dX9_near_13 ?_
  refine zr_if_gt (a := (lg_cmp (zs_ab (x.toInt64 - y.toInt64)) ((u 0 0).toInt64)).toInt) (tgt := 21) X dX9_near_14 (by decide) rfl (fun c_1 => ?_) (fun c_1 => ?_)
  · refine lv_iconst (v := 0) X.1 X.2.1 dX9_near_21 (by decide) ?_
    exact zr_zret X hW dX9_near_22 (Nat.le_refl _) (Nat.le_refl _) rfl ⟨rfl, rfl, rfl, Or.inr ⟨by (simp only [zi_cgt, Int32.toInt_toInt64] at *; omega), rfl⟩⟩
  · refine lv_iconst (v := 1) X.1 X.2.1 dX9_near_17 (by decide) ?_
    refine lv_goto (tgt := 22) X.1 X.2.1 dX9_near_18 (by decide) ?_
    exact zr_zret X hW dX9_near_22 (Nat.le_refl _) (Nat.le_refl _) rfl ⟨rfl, rfl, rfl, Or.inl ⟨by (simp only [zi_cgt, Int32.toInt_toInt64] at *; omega), rfl⟩⟩

set_option maxHeartbeats 4000000 in
set_option maxRecDepth 100000 in
theorem c_X9_hasRoom_10 (l : Launch) (Y : zw_Y) (N0 : Nat) (ad : Nat → Nat) (sh : Nat → Option zw_Sh) (g u : zm_T) (hS : zc_S sh) (hN : zc_N g u) (hI : zm_I u) : zw_Met l Y N0 yX9_hasRoom cX9_hasRoom 3 (some .boolean) 0 0 0 0 ad sh g [.ref (ad 100), .int 1, .int 0] (zp_B ad sh g ((u 0 2).toInt + 1 ≤ 200 ∧ (u 0 8).toInt + 0 ≤ 150)) := by
  refine zw_meth (by decide) (Nat.le_of_ble_eq_true rfl) ?_
  intro p e s m below meth c ls X hnm hl hW
  have hl : lv_has ls 3 [(0, .ref (ad 100)), (1, .int 1), (2, .int 0)] := hl
  have hN0 := hN
  have hke := zI_ke hI
  have hse := zI_se hI
  have hk1 := zi_add (u 0 2) 1 (by rw [show (1 : Int32).toInt = 1 from rfl]; omega)
  rw [show (1 : Int32).toInt = 1 from rfl] at hk1
  have hk2 := zi_add (u 0 8) 0 (by rw [show (0 : Int32).toInt = 0 from rfl]; omega)
  rw [show (0 : Int32).toInt = 0 from rfl] at hk2
  refine lv_aload_n X.1 X.2.1 dX9_hasRoom_0 rfl (lv_at hl 0 rfl) ?_
  refine zr_get (r := 100) (v := .int (u 0 2)) X hW fs_X9_53_8 dX9_hasRoom_1 (zc_s100 hS) rfl rfl (congrArg Value.int (hN0 _ _ _ _ rfl)) ?_
  refine lv_iload_n X.1 X.2.1 dX9_hasRoom_4 rfl (lv_at hl 1 rfl) ?_
  refine lv_iadd X.1 X.2.1 dX9_hasRoom_5 ?_
  refine lv_sipush (v := 200) X.1 X.2.1 dX9_hasRoom_6 (by decide) ?_
  refine zr_icmp_gt (a := ((u 0 2) + 1).toInt) (b := 200) (tgt := 28) X dX9_hasRoom_9 (by decide) rfl (by decide) (fun c_1 => ?_) (fun c_1 => ?_)
  · refine lv_iconst (v := 0) X.1 X.2.1 dX9_hasRoom_28 (by decide) ?_
    exact zr_zret X hW dX9_hasRoom_29 (Nat.le_refl _) (Nat.le_refl _) rfl ⟨rfl, rfl, rfl, Or.inr ⟨by omega, rfl⟩⟩
  · refine lv_aload_n X.1 X.2.1 dX9_hasRoom_12 rfl (lv_at hl 0 rfl) ?_
    refine zr_get (r := 100) (v := .int (u 0 8)) X hW fs_X9_45_8 dX9_hasRoom_13 (zc_s100 hS) rfl rfl (congrArg Value.int (hN0 _ _ _ _ rfl)) ?_
    refine lv_iload_n X.1 X.2.1 dX9_hasRoom_16 rfl (lv_at hl 2 rfl) ?_
    refine lv_iadd X.1 X.2.1 dX9_hasRoom_17 ?_
    refine lv_sipush (v := 150) X.1 X.2.1 dX9_hasRoom_18 (by decide) ?_
    refine zr_icmp_gt (a := ((u 0 8) + 0).toInt) (b := 150) (tgt := 28) X dX9_hasRoom_21 (by decide) rfl (by decide) (fun c_2 => ?_) (fun c_2 => ?_)
    · refine lv_iconst (v := 0) X.1 X.2.1 dX9_hasRoom_28 (by decide) ?_
      exact zr_zret X hW dX9_hasRoom_29 (Nat.le_refl _) (Nat.le_refl _) rfl ⟨rfl, rfl, rfl, Or.inr ⟨by omega, rfl⟩⟩
    · refine lv_iconst (v := 1) X.1 X.2.1 dX9_hasRoom_24 (by decide) ?_
      refine lv_goto (tgt := 29) X.1 X.2.1 dX9_hasRoom_25 (by decide) ?_
      exact zr_zret X hW dX9_hasRoom_29 (Nat.le_refl _) (Nat.le_refl _) rfl ⟨rfl, rfl, rfl, Or.inl ⟨by omega, rfl⟩⟩

set_option maxHeartbeats 4000000 in
set_option maxRecDepth 100000 in
theorem c_X9_hasRoom_01 (l : Launch) (Y : zw_Y) (N0 : Nat) (ad : Nat → Nat) (sh : Nat → Option zw_Sh) (g u : zm_T) (hS : zc_S sh) (hN : zc_N g u) (hI : zm_I u) : zw_Met l Y N0 yX9_hasRoom cX9_hasRoom 3 (some .boolean) 0 0 0 0 ad sh g [.ref (ad 100), .int 0, .int 1] (zp_B ad sh g ((u 0 2).toInt + 0 ≤ 200 ∧ (u 0 8).toInt + 1 ≤ 150)) := by
  refine zw_meth (by decide) (Nat.le_of_ble_eq_true rfl) ?_
  intro p e s m below meth c ls X hnm hl hW
  have hl : lv_has ls 3 [(0, .ref (ad 100)), (1, .int 0), (2, .int 1)] := hl
  have hN0 := hN
  have hke := zI_ke hI
  have hse := zI_se hI
  have hk1 := zi_add (u 0 2) 0 (by rw [show (0 : Int32).toInt = 0 from rfl]; omega)
  rw [show (0 : Int32).toInt = 0 from rfl] at hk1
  have hk2 := zi_add (u 0 8) 1 (by rw [show (1 : Int32).toInt = 1 from rfl]; omega)
  rw [show (1 : Int32).toInt = 1 from rfl] at hk2
  refine lv_aload_n X.1 X.2.1 dX9_hasRoom_0 rfl (lv_at hl 0 rfl) ?_
  refine zr_get (r := 100) (v := .int (u 0 2)) X hW fs_X9_53_8 dX9_hasRoom_1 (zc_s100 hS) rfl rfl (congrArg Value.int (hN0 _ _ _ _ rfl)) ?_
  refine lv_iload_n X.1 X.2.1 dX9_hasRoom_4 rfl (lv_at hl 1 rfl) ?_
  refine lv_iadd X.1 X.2.1 dX9_hasRoom_5 ?_
  refine lv_sipush (v := 200) X.1 X.2.1 dX9_hasRoom_6 (by decide) ?_
  refine zr_icmp_gt (a := ((u 0 2) + 0).toInt) (b := 200) (tgt := 28) X dX9_hasRoom_9 (by decide) rfl (by decide) (fun c_1 => ?_) (fun c_1 => ?_)
  · refine lv_iconst (v := 0) X.1 X.2.1 dX9_hasRoom_28 (by decide) ?_
    exact zr_zret X hW dX9_hasRoom_29 (Nat.le_refl _) (Nat.le_refl _) rfl ⟨rfl, rfl, rfl, Or.inr ⟨by omega, rfl⟩⟩
  · refine lv_aload_n X.1 X.2.1 dX9_hasRoom_12 rfl (lv_at hl 0 rfl) ?_
    refine zr_get (r := 100) (v := .int (u 0 8)) X hW fs_X9_45_8 dX9_hasRoom_13 (zc_s100 hS) rfl rfl (congrArg Value.int (hN0 _ _ _ _ rfl)) ?_
    refine lv_iload_n X.1 X.2.1 dX9_hasRoom_16 rfl (lv_at hl 2 rfl) ?_
    refine lv_iadd X.1 X.2.1 dX9_hasRoom_17 ?_
    refine lv_sipush (v := 150) X.1 X.2.1 dX9_hasRoom_18 (by decide) ?_
    refine zr_icmp_gt (a := ((u 0 8) + 1).toInt) (b := 150) (tgt := 28) X dX9_hasRoom_21 (by decide) rfl (by decide) (fun c_2 => ?_) (fun c_2 => ?_)
    · refine lv_iconst (v := 0) X.1 X.2.1 dX9_hasRoom_28 (by decide) ?_
      exact zr_zret X hW dX9_hasRoom_29 (Nat.le_refl _) (Nat.le_refl _) rfl ⟨rfl, rfl, rfl, Or.inr ⟨by omega, rfl⟩⟩
    · refine lv_iconst (v := 1) X.1 X.2.1 dX9_hasRoom_24 (by decide) ?_
      refine lv_goto (tgt := 29) X.1 X.2.1 dX9_hasRoom_25 (by decide) ?_
      exact zr_zret X hW dX9_hasRoom_29 (Nat.le_refl _) (Nat.le_refl _) rfl ⟨rfl, rfl, rfl, Or.inl ⟨by omega, rfl⟩⟩

set_option maxHeartbeats 4000000 in
set_option maxRecDepth 100000 in
theorem c_X9_hasRoom_12 (l : Launch) (Y : zw_Y) (N0 : Nat) (ad : Nat → Nat) (sh : Nat → Option zw_Sh) (g u : zm_T) (hS : zc_S sh) (hN : zc_N g u) (hI : zm_I u) : zw_Met l Y N0 yX9_hasRoom cX9_hasRoom 3 (some .boolean) 0 0 0 0 ad sh g [.ref (ad 100), .int 1, .int 2] (zp_B ad sh g ((u 0 2).toInt + 1 ≤ 200 ∧ (u 0 8).toInt + 2 ≤ 150)) := by
  refine zw_meth (by decide) (Nat.le_of_ble_eq_true rfl) ?_
  intro p e s m below meth c ls X hnm hl hW
  have hl : lv_has ls 3 [(0, .ref (ad 100)), (1, .int 1), (2, .int 2)] := hl
  have hN0 := hN
  have hke := zI_ke hI
  have hse := zI_se hI
  have hk1 := zi_add (u 0 2) 1 (by rw [show (1 : Int32).toInt = 1 from rfl]; omega)
  rw [show (1 : Int32).toInt = 1 from rfl] at hk1
  have hk2 := zi_add (u 0 8) 2 (by rw [show (2 : Int32).toInt = 2 from rfl]; omega)
  rw [show (2 : Int32).toInt = 2 from rfl] at hk2
  refine lv_aload_n X.1 X.2.1 dX9_hasRoom_0 rfl (lv_at hl 0 rfl) ?_
  refine zr_get (r := 100) (v := .int (u 0 2)) X hW fs_X9_53_8 dX9_hasRoom_1 (zc_s100 hS) rfl rfl (congrArg Value.int (hN0 _ _ _ _ rfl)) ?_
  refine lv_iload_n X.1 X.2.1 dX9_hasRoom_4 rfl (lv_at hl 1 rfl) ?_
  refine lv_iadd X.1 X.2.1 dX9_hasRoom_5 ?_
  refine lv_sipush (v := 200) X.1 X.2.1 dX9_hasRoom_6 (by decide) ?_
  refine zr_icmp_gt (a := ((u 0 2) + 1).toInt) (b := 200) (tgt := 28) X dX9_hasRoom_9 (by decide) rfl (by decide) (fun c_1 => ?_) (fun c_1 => ?_)
  · refine lv_iconst (v := 0) X.1 X.2.1 dX9_hasRoom_28 (by decide) ?_
    exact zr_zret X hW dX9_hasRoom_29 (Nat.le_refl _) (Nat.le_refl _) rfl ⟨rfl, rfl, rfl, Or.inr ⟨by omega, rfl⟩⟩
  · refine lv_aload_n X.1 X.2.1 dX9_hasRoom_12 rfl (lv_at hl 0 rfl) ?_
    refine zr_get (r := 100) (v := .int (u 0 8)) X hW fs_X9_45_8 dX9_hasRoom_13 (zc_s100 hS) rfl rfl (congrArg Value.int (hN0 _ _ _ _ rfl)) ?_
    refine lv_iload_n X.1 X.2.1 dX9_hasRoom_16 rfl (lv_at hl 2 rfl) ?_
    refine lv_iadd X.1 X.2.1 dX9_hasRoom_17 ?_
    refine lv_sipush (v := 150) X.1 X.2.1 dX9_hasRoom_18 (by decide) ?_
    refine zr_icmp_gt (a := ((u 0 8) + 2).toInt) (b := 150) (tgt := 28) X dX9_hasRoom_21 (by decide) rfl (by decide) (fun c_2 => ?_) (fun c_2 => ?_)
    · refine lv_iconst (v := 0) X.1 X.2.1 dX9_hasRoom_28 (by decide) ?_
      exact zr_zret X hW dX9_hasRoom_29 (Nat.le_refl _) (Nat.le_refl _) rfl ⟨rfl, rfl, rfl, Or.inr ⟨by omega, rfl⟩⟩
    · refine lv_iconst (v := 1) X.1 X.2.1 dX9_hasRoom_24 (by decide) ?_
      refine lv_goto (tgt := 29) X.1 X.2.1 dX9_hasRoom_25 (by decide) ?_
      exact zr_zret X hW dX9_hasRoom_29 (Nat.le_refl _) (Nat.le_refl _) rfl ⟨rfl, rfl, rfl, Or.inl ⟨by omega, rfl⟩⟩

set_option maxHeartbeats 4000000 in
set_option maxRecDepth 100000 in
theorem c_X9_makeKey (l : Launch) (Y : zw_Y) (N0 : Nat) (ad : Nat → Nat) (sh : Nat → Option zw_Sh) (g u : zm_T) (hS : zc_S sh) (hN : zc_N g u) : zw_Met l Y N0 yX9_makeKey cX9_makeKey 2 (some .int) 0 0 0 0 ad sh g [.ref (ad 100)] (zp_G ad sh (fun v g' => ∃ r : Int32, v = some (.int r) ∧ r = u 0 2 ∧ g' = zm_w g 100 10 (u 0 2 + 1))) := by
  refine zw_meth (by decide) (Nat.le_of_ble_eq_true rfl) ?_
  intro p e s m below meth c ls X hnm hl hW
  have hl : lv_has ls 2 [(0, .ref (ad 100))] := hl
  have hN0 := hN
  refine lv_aload_n X.1 X.2.1 dX9_makeKey_0 rfl (lv_at hl 0 rfl) ?_
  refine zr_get (r := 100) (v := .int (u 0 2)) X hW fs_X9_53_8 dX9_makeKey_1 (zc_s100 hS) rfl rfl (congrArg Value.int (hN0 _ _ _ _ rfl)) ?_
  refine lv_istore_n (lv' := [(1, .int (u 0 2)), (0, .ref (ad 100))]) X.1 X.2.1 dX9_makeKey_4 rfl hl (by decide) rfl (fun ls hl => ?_)
  refine lv_aload_n X.1 X.2.1 dX9_makeKey_5 rfl (lv_at hl 1 rfl) ?_
  refine lv_dup X.1 X.2.1 dX9_makeKey_6 rfl ?_
  refine zr_get (r := 100) (v := .int (u 0 2)) X hW fs_X9_53_8 dX9_makeKey_7 (zc_s100 hS) rfl rfl (congrArg Value.int (hN0 _ _ _ _ rfl)) ?_
  refine lv_iconst (v := 1) X.1 X.2.1 dX9_makeKey_10 (by decide) ?_
  refine lv_iadd X.1 X.2.1 dX9_makeKey_11 ?_
  refine zr_puti (r := 100) X hW fs_X9_53_8 dX9_makeKey_12 (zc_s100 hS) rfl rfl rfl rfl (fun H locs hW => ?_)
  obtain ⟨g_1, hg_1⟩ : ∃ z : zm_T, z = zm_w g 100 10 ((u 0 2) + 1) := ⟨_, rfl⟩
  have hW : zw_St Y N0 ad sh g_1 s H locs := by rw [hg_1]; exact hW
  refine lv_iload_n X.1 X.2.1 dX9_makeKey_15 rfl (lv_at hl 0 rfl) ?_
  exact zr_iret X hW dX9_makeKey_16 (Nat.le_refl _) (Nat.le_refl _) ⟨rfl, rfl, _, rfl, rfl, by rw [hg_1]⟩

set_option maxHeartbeats 4000000 in
set_option maxRecDepth 100000 in
theorem c_X9_makeNonce (l : Launch) (Y : zw_Y) (N0 : Nat) (ad : Nat → Nat) (sh : Nat → Option zw_Sh) (g u : zm_T) (hS : zc_S sh) (hN : zc_N g u) : zw_Met l Y N0 yX9_makeNonce cX9_makeNonce 1 (some .int) 0 0 0 0 ad sh g [.ref (ad 100)] (zp_G ad sh (fun v g' => ∃ r : Int32, v = some (.int r) ∧ r = u 0 19 + 1 ∧ g' = zm_w g 100 11 (u 0 19 + 1))) := by
  refine zw_meth (by decide) (Nat.le_of_ble_eq_true rfl) ?_
  intro p e s m below meth c ls X hnm hl hW
  have hl : lv_has ls 1 [(0, .ref (ad 100))] := hl
  have hN0 := hN
  refine lv_aload_n X.1 X.2.1 dX9_makeNonce_0 rfl (lv_at hl 0 rfl) ?_
  refine lv_dup X.1 X.2.1 dX9_makeNonce_1 rfl ?_
  refine zr_get (r := 100) (v := .int (u 0 19)) X hW fs_X9_56_8 dX9_makeNonce_2 (zc_s100 hS) rfl rfl (congrArg Value.int (hN0 _ _ _ _ rfl)) ?_
  refine lv_iconst (v := 1) X.1 X.2.1 dX9_makeNonce_5 (by decide) ?_
  refine lv_iadd X.1 X.2.1 dX9_makeNonce_6 ?_
  refine zr_puti (r := 100) X hW fs_X9_56_8 dX9_makeNonce_7 (zc_s100 hS) rfl rfl rfl rfl (fun H locs hW => ?_)
  obtain ⟨g_1, hg_1⟩ : ∃ z : zm_T, z = zm_w g 100 11 ((u 0 19) + 1) := ⟨_, rfl⟩
  have hW : zw_St Y N0 ad sh g_1 s H locs := by rw [hg_1]; exact hW
  refine lv_aload_n X.1 X.2.1 dX9_makeNonce_10 rfl (lv_at hl 0 rfl) ?_
  refine zr_get (r := 100) (v := .int ((u 0 19) + 1)) X hW fs_X9_56_8 dX9_makeNonce_11 (zc_s100 hS) rfl rfl (congrArg Value.int (show g_1 100 11 = (u 0 19) + 1 from (by rw [hg_1]; exact zm_ws _ _ _ _))) ?_
  exact zr_iret X hW dX9_makeNonce_14 (Nat.le_refl _) (Nat.le_refl _) ⟨rfl, rfl, _, rfl, rfl, by rw [hg_1]⟩

set_option maxHeartbeats 4000000 in
set_option maxRecDepth 100000 in
theorem c_X9_userAt (l : Launch) (Y : zw_Y) (N0 : Nat) (ad : Nat → Nat) (sh : Nat → Option zw_Sh) (g : zm_T) (hS : zc_S sh) (a : Int32) : zw_Met l Y N0 yX9_userAt cX9_userAt 2 (some (.object "TicketRealm$User")) 1 20 0 0 ad sh g [.ref (ad 100), .int a] (fun v ad' sh' g' => ad = ad' ∧ sh = sh' ∧ g = g' ∧ ((a = 2 ∧ v = some (.ref (ad 115))) ∨ (a = 3 ∧ v = some (.ref (ad 116))) ∨ (a = 4 ∧ v = some (.ref (ad 117))) ∨ (a = 5 ∧ v = some (.ref (ad 118))) ∨ (¬ zs_us a ∧ v = some .null))) := by
  refine zw_meth (by decide) (Nat.le_of_ble_eq_true rfl) ?_
  intro p e s m below meth c ls X hnm hl hW
  have hl : lv_has ls 2 [(0, .ref (ad 100)), (1, .int a)] := hl
  refine lv_iload_n X.1 X.2.1 dX9_userAt_0 rfl (lv_at hl 1 rfl) ?_
  refine zr_callS (As := [.int a]) (rest := []) X hW hl.1 md_X9_isUser ms_X9_302 dX9_userAt_1 rfl rfl (Nat.le_of_ble_eq_true rfl) ⟨Nat.le_of_ble_eq_true rfl, Nat.le_of_ble_eq_true rfl⟩ ⟨Nat.le_of_ble_eq_true rfl, Nat.le_of_ble_eq_true rfl⟩ (c_X9_isUser l Y N0 ad sh g a) (fun v9 ad9 sh9 g9 H locs hp hW => ?_)
  rcases hp with ⟨rfl, rfl, rfl, ⟨h_1, h9⟩ | ⟨h_1, h9⟩⟩
  · subst h9
    have h_1 : zi_in a 2 5 := h_1
    refine zr_if_eq (a := 1) (tgt := 18) X dX9_userAt_4 (by decide) (by decide) (fun c9 => absurd c9 (by decide)) (fun _ => ?_)
    obtain hc | hc | hc | hc : a.toInt = 2 ∨ a.toInt = 3 ∨ a.toInt = 4 ∨ a.toInt = 5 := by omega
    · have hc : a = 2 := zi_ext hc
      subst hc
      refine lv_aload_n X.1 X.2.1 dX9_userAt_7 rfl (lv_at hl 0 rfl) ?_
      refine zr_get (r := 100) (v := .ref (ad 105)) X hW fs_X9_28_8 dX9_userAt_8 (zc_s100 hS) rfl rfl rfl ?_
      refine lv_iload_n X.1 X.2.1 dX9_userAt_11 rfl (lv_at hl 1 rfl) ?_
      refine lv_iconst (v := 2) X.1 X.2.1 dX9_userAt_12 (by decide) ?_
      refine lv_isub X.1 X.2.1 dX9_userAt_13 ?_
      refine zr_eqi (v := 0) (by decide) ?_
      refine zr_aald (r := 105) (v := .ref (ad 115)) X hW dX9_userAt_14 (zc_s105 hS) rfl rfl rfl (zi_vp (by decide)) rfl ?_
      refine lv_goto (tgt := 19) X.1 X.2.1 dX9_userAt_15 (by decide) ?_
      exact zr_aret X hW dX9_userAt_19 (Nat.le_refl _) (Nat.le_refl _) (Or.inr ⟨_, rfl⟩) ⟨rfl, rfl, rfl, Or.inl ⟨rfl, rfl⟩⟩
    · have hc : a = 3 := zi_ext hc
      subst hc
      refine lv_aload_n X.1 X.2.1 dX9_userAt_7 rfl (lv_at hl 0 rfl) ?_
      refine zr_get (r := 100) (v := .ref (ad 105)) X hW fs_X9_28_8 dX9_userAt_8 (zc_s100 hS) rfl rfl rfl ?_
      refine lv_iload_n X.1 X.2.1 dX9_userAt_11 rfl (lv_at hl 1 rfl) ?_
      refine lv_iconst (v := 2) X.1 X.2.1 dX9_userAt_12 (by decide) ?_
      refine lv_isub X.1 X.2.1 dX9_userAt_13 ?_
      refine zr_eqi (v := 1) (by decide) ?_
      refine zr_aald (r := 105) (v := .ref (ad 116)) X hW dX9_userAt_14 (zc_s105 hS) rfl rfl rfl (zi_vp (by decide)) rfl ?_
      refine lv_goto (tgt := 19) X.1 X.2.1 dX9_userAt_15 (by decide) ?_
      exact zr_aret X hW dX9_userAt_19 (Nat.le_refl _) (Nat.le_refl _) (Or.inr ⟨_, rfl⟩) ⟨rfl, rfl, rfl, Or.inr (Or.inl ⟨rfl, rfl⟩)⟩
    · have hc : a = 4 := zi_ext hc
      subst hc
      refine lv_aload_n X.1 X.2.1 dX9_userAt_7 rfl (lv_at hl 0 rfl) ?_
      refine zr_get (r := 100) (v := .ref (ad 105)) X hW fs_X9_28_8 dX9_userAt_8 (zc_s100 hS) rfl rfl rfl ?_
      refine lv_iload_n X.1 X.2.1 dX9_userAt_11 rfl (lv_at hl 1 rfl) ?_
      refine lv_iconst (v := 2) X.1 X.2.1 dX9_userAt_12 (by decide) ?_
      refine lv_isub X.1 X.2.1 dX9_userAt_13 ?_
      refine zr_eqi (v := 2) (by decide) ?_
      refine zr_aald (r := 105) (v := .ref (ad 117)) X hW dX9_userAt_14 (zc_s105 hS) rfl rfl rfl (zi_vp (by decide)) rfl ?_
      refine lv_goto (tgt := 19) X.1 X.2.1 dX9_userAt_15 (by decide) ?_
      exact zr_aret X hW dX9_userAt_19 (Nat.le_refl _) (Nat.le_refl _) (Or.inr ⟨_, rfl⟩) ⟨rfl, rfl, rfl, Or.inr (Or.inr (Or.inl ⟨rfl, rfl⟩))⟩
    · have hc : a = 5 := zi_ext hc
      subst hc
      refine lv_aload_n X.1 X.2.1 dX9_userAt_7 rfl (lv_at hl 0 rfl) ?_
      refine zr_get (r := 100) (v := .ref (ad 105)) X hW fs_X9_28_8 dX9_userAt_8 (zc_s100 hS) rfl rfl rfl ?_
      refine lv_iload_n X.1 X.2.1 dX9_userAt_11 rfl (lv_at hl 1 rfl) ?_
      refine lv_iconst (v := 2) X.1 X.2.1 dX9_userAt_12 (by decide) ?_
      refine lv_isub X.1 X.2.1 dX9_userAt_13 ?_
      refine zr_eqi (v := 3) (by decide) ?_
      refine zr_aald (r := 105) (v := .ref (ad 118)) X hW dX9_userAt_14 (zc_s105 hS) rfl rfl rfl (zi_vp (by decide)) rfl ?_
      refine lv_goto (tgt := 19) X.1 X.2.1 dX9_userAt_15 (by decide) ?_
      exact zr_aret X hW dX9_userAt_19 (Nat.le_refl _) (Nat.le_refl _) (Or.inr ⟨_, rfl⟩) ⟨rfl, rfl, rfl, Or.inr (Or.inr (Or.inr (Or.inl ⟨rfl, rfl⟩)))⟩
  · subst h9
    have h_1 : ¬ (zi_in a 2 5) := h_1
    refine zr_if_eq (a := 0) (tgt := 18) X dX9_userAt_4 (by decide) (by decide) (fun _ => ?_) (fun c9 => absurd c9 (by decide))
    refine lv_null X.1 X.2.1 dX9_userAt_18 ?_
    exact zr_aret X hW dX9_userAt_19 (Nat.le_refl _) (Nat.le_refl _) (Or.inl rfl) ⟨rfl, rfl, rfl, Or.inr (Or.inr (Or.inr (Or.inr ⟨h_1, rfl⟩)))⟩

set_option maxHeartbeats 4000000 in
set_option maxRecDepth 100000 in
theorem c_X9_sealAt (l : Launch) (Y : zw_Y) (N0 : Nat) (ad : Nat → Nat) (sh : Nat → Option zw_Sh) (g u : zm_T) (hR : zc_R sh g u) (hI : zm_I u) (q : Int32) : zw_Met l Y N0 yX9_sealAt cX9_sealAt 2 (some (.object "TicketRealm$Seal")) 0 0 0 0 ad sh g [.ref (ad 100), .int q] (fun v ad' sh' g' => ad = ad' ∧ sh = sh' ∧ g = g' ∧ ((zs_sl u q ∧ v = some (.ref (ad (200 + 2 * (zn q))))) ∨ (¬ zs_sl u q ∧ v = some .null))) := by
  refine zw_meth (by decide) (Nat.le_of_ble_eq_true rfl) ?_
  intro p e s m below meth c ls X hnm hl hW
  have hl : lv_has ls 2 [(0, .ref (ad 100)), (1, .int q)] := hl
  have hS := hR.1
  have hN0 := hR.2.1
  have hse := zI_se hI
  refine lv_iload_n X.1 X.2.1 dX9_sealAt_0 rfl (lv_at hl 1 rfl) ?_
  refine zr_if_lt (a := (q).toInt) (tgt := 21) X dX9_sealAt_1 (by decide) rfl (fun c_1 => ?_) (fun c_1 => ?_)
  · refine lv_null X.1 X.2.1 dX9_sealAt_21 ?_
    exact zr_aret X hW dX9_sealAt_22 (Nat.le_refl _) (Nat.le_refl _) (Or.inl rfl) ⟨rfl, rfl, rfl, Or.inr ⟨by omega, rfl⟩⟩
  · refine lv_iload_n X.1 X.2.1 dX9_sealAt_4 rfl (lv_at hl 1 rfl) ?_
    refine lv_aload_n X.1 X.2.1 dX9_sealAt_5 rfl (lv_at hl 0 rfl) ?_
    refine zr_get (r := 100) (v := .int (u 0 8)) X hW fs_X9_45_8 dX9_sealAt_6 (zc_s100 hS) rfl rfl (congrArg Value.int (hN0 _ _ _ _ rfl)) ?_
    refine zr_icmp_ge (a := (q).toInt) (b := (u 0 8).toInt) (tgt := 21) X dX9_sealAt_9 (by decide) rfl rfl (fun c_2 => ?_) (fun c_2 => ?_)
    · refine lv_null X.1 X.2.1 dX9_sealAt_21 ?_
      exact zr_aret X hW dX9_sealAt_22 (Nat.le_refl _) (Nat.le_refl _) (Or.inl rfl) ⟨rfl, rfl, rfl, Or.inr ⟨by omega, rfl⟩⟩
    · refine lv_aload_n X.1 X.2.1 dX9_sealAt_12 rfl (lv_at hl 0 rfl) ?_
      refine zr_get (r := 100) (v := .ref (ad 107)) X hW fs_X9_41_8 dX9_sealAt_13 (zc_s100 hS) rfl rfl rfl ?_
      refine lv_iload_n X.1 X.2.1 dX9_sealAt_16 rfl (lv_at hl 1 rfl) ?_
      refine zr_aald (r := 107) (v := .ref (ad (200 + 2 * (zn q)))) X hW dX9_sealAt_17 hR.2.2.2.2.1 rfl rfl rfl (zi_vp (by omega)) (by unfold zc_sf; rw [if_pos (show q.toNatClampNeg < zn (u 0 8) from (by show zn q < zn (u 0 8); simp only [zi_n]; omega))]; rfl) ?_
      refine lv_goto (tgt := 22) X.1 X.2.1 dX9_sealAt_18 (by decide) ?_
      exact zr_aret X hW dX9_sealAt_22 (Nat.le_refl _) (Nat.le_refl _) (Or.inr ⟨_, rfl⟩) ⟨rfl, rfl, rfl, Or.inl ⟨by omega, rfl⟩⟩

set_option maxHeartbeats 4000000 in
set_option maxRecDepth 100000 in
theorem c_X9_open (l : Launch) (Y : zw_Y) (N0 : Nat) (ad : Nat → Nat) (sh : Nat → Option zw_Sh) (g u : zm_T) (hR : zc_R sh g u) (hI : zm_I u) (q key : Int32) : zw_Met l Y N0 yX9_open cX9_open 4 (some (.object "TicketRealm$Seal")) 1 21 0 0 ad sh g [.ref (ad 100), .int q, .int key] (fun v ad' sh' g' => ad = ad' ∧ sh = sh' ∧ g = g' ∧ ((zs_sl u q ∧ (u 10 (zn q)).toInt = key.toInt ∧ v = some (.ref (ad (200 + 2 * (zn q))))) ∨ (¬ (zs_sl u q ∧ (u 10 (zn q)).toInt = key.toInt) ∧ v = some .null))) := by
  refine zw_meth (by decide) (Nat.le_of_ble_eq_true rfl) ?_
  intro p e s m below meth c ls X hnm hl hW
  have hl : lv_has ls 4 [(0, .ref (ad 100)), (1, .int q), (2, .int key)] := hl
  have hS := hR.1
  have hN0 := hR.2.1
  have hse := zI_se hI
  refine lv_aload_n X.1 X.2.1 dX9_open_0 rfl (lv_at hl 0 rfl) ?_
  refine lv_iload_n X.1 X.2.1 dX9_open_1 rfl (lv_at hl 1 rfl) ?_
  refine zr_callV (As := [.int q]) (rest := []) X hW hl.1 md_X9_sealAt ms_X9_155 dX9_open_2 (zc_s100 hS) rfl rfl rfl rfl (Nat.le_of_ble_eq_true rfl) ⟨Nat.le_of_ble_eq_true rfl, Nat.le_of_ble_eq_true rfl⟩ ⟨Nat.le_of_ble_eq_true rfl, Nat.le_of_ble_eq_true rfl⟩ (c_X9_sealAt l Y N0 ad sh g u hR hI q) (fun v9 ad9 sh9 g9 H locs hp hW => ?_)
  rcases hp with ⟨rfl, rfl, rfl, ⟨h_1, h8⟩ | ⟨h_1, h8⟩⟩
  · subst h8
    have h_1 : zs_sl u q := h_1
    refine lv_astore_n (lv' := [(3, .ref (ad (200 + 2 * (zn q)))), (0, .ref (ad 100)), (1, .int q), (2, .int key)]) X.1 X.2.1 dX9_open_5 rfl hl (by decide) rfl (fun ls hl => ?_)
    refine lv_aload_n X.1 X.2.1 dX9_open_6 rfl (lv_at hl 0 rfl) ?_
    refine lv_ifnull X.1 X.2.1 dX9_open_7 ?_
    have hln : zn q < zn (u 0 8) := by simp only [zi_n]; omega
    have hki := (zI_sl hI (zn q) (by simp only [zi_n]; omega)).1
    obtain hkd | hkd | hkd | hkd : (u 9 (zn q)).toInt = 1 ∨ (u 9 (zn q)).toInt = 2 ∨ (u 9 (zn q)).toInt = 3 ∨ (u 9 (zn q)).toInt = 4 := by omega
    · have hq := (hR.2.2.2.2.2.1 (zn q) hln).1 hkd
      refine lv_aload_n X.1 X.2.1 dX9_open_10 rfl (lv_at hl 0 rfl) ?_
      refine zr_get (r := (200 + 2 * (zn q))) (v := .int (u 10 ((zn q)))) X hW fs_X9_267_5 dX9_open_11 hq.1 rfl rfl (congrArg Value.int hq.2.1) ?_
      refine lv_iload_n X.1 X.2.1 dX9_open_14 rfl (lv_at hl 3 rfl) ?_
      refine zr_icmp_ne (a := (u 10 ((zn q))).toInt) (b := (key).toInt) (tgt := 22) X dX9_open_15 (by decide) rfl rfl (fun c_2 => ?_) (fun c_2 => ?_)
      · refine lv_null X.1 X.2.1 dX9_open_22 ?_
        exact zr_aret X hW dX9_open_23 (Nat.le_refl _) (Nat.le_refl _) (Or.inl rfl) ⟨rfl, rfl, rfl, Or.inr ⟨by omega, rfl⟩⟩
      · refine lv_aload_n X.1 X.2.1 dX9_open_18 rfl (lv_at hl 0 rfl) ?_
        refine lv_goto (tgt := 23) X.1 X.2.1 dX9_open_19 (by decide) ?_
        exact zr_aret X hW dX9_open_23 (Nat.le_refl _) (Nat.le_refl _) (Or.inr ⟨_, rfl⟩) ⟨rfl, rfl, rfl, Or.inl ⟨by omega, by omega, rfl⟩⟩
    · have hq := (hR.2.2.2.2.2.1 (zn q) hln).2.1 hkd
      refine lv_aload_n X.1 X.2.1 dX9_open_10 rfl (lv_at hl 0 rfl) ?_
      refine zr_get (r := (200 + 2 * (zn q))) (v := .int (u 10 ((zn q)))) X hW fs_X9_267_6 dX9_open_11 hq.1 rfl rfl (congrArg Value.int hq.2.1) ?_
      refine lv_iload_n X.1 X.2.1 dX9_open_14 rfl (lv_at hl 3 rfl) ?_
      refine zr_icmp_ne (a := (u 10 ((zn q))).toInt) (b := (key).toInt) (tgt := 22) X dX9_open_15 (by decide) rfl rfl (fun c_3 => ?_) (fun c_3 => ?_)
      · refine lv_null X.1 X.2.1 dX9_open_22 ?_
        exact zr_aret X hW dX9_open_23 (Nat.le_refl _) (Nat.le_refl _) (Or.inl rfl) ⟨rfl, rfl, rfl, Or.inr ⟨by omega, rfl⟩⟩
      · refine lv_aload_n X.1 X.2.1 dX9_open_18 rfl (lv_at hl 0 rfl) ?_
        refine lv_goto (tgt := 23) X.1 X.2.1 dX9_open_19 (by decide) ?_
        exact zr_aret X hW dX9_open_23 (Nat.le_refl _) (Nat.le_refl _) (Or.inr ⟨_, rfl⟩) ⟨rfl, rfl, rfl, Or.inl ⟨by omega, by omega, rfl⟩⟩
    · have hq := (hR.2.2.2.2.2.1 (zn q) hln).2.2.1 hkd
      refine lv_aload_n X.1 X.2.1 dX9_open_10 rfl (lv_at hl 0 rfl) ?_
      refine zr_get (r := (200 + 2 * (zn q))) (v := .int (u 10 ((zn q)))) X hW fs_X9_267_4 dX9_open_11 hq.1 rfl rfl (congrArg Value.int hq.2.1) ?_
      refine lv_iload_n X.1 X.2.1 dX9_open_14 rfl (lv_at hl 3 rfl) ?_
      refine zr_icmp_ne (a := (u 10 ((zn q))).toInt) (b := (key).toInt) (tgt := 22) X dX9_open_15 (by decide) rfl rfl (fun c_4 => ?_) (fun c_4 => ?_)
      · refine lv_null X.1 X.2.1 dX9_open_22 ?_
        exact zr_aret X hW dX9_open_23 (Nat.le_refl _) (Nat.le_refl _) (Or.inl rfl) ⟨rfl, rfl, rfl, Or.inr ⟨by omega, rfl⟩⟩
      · refine lv_aload_n X.1 X.2.1 dX9_open_18 rfl (lv_at hl 0 rfl) ?_
        refine lv_goto (tgt := 23) X.1 X.2.1 dX9_open_19 (by decide) ?_
        exact zr_aret X hW dX9_open_23 (Nat.le_refl _) (Nat.le_refl _) (Or.inr ⟨_, rfl⟩) ⟨rfl, rfl, rfl, Or.inl ⟨by omega, by omega, rfl⟩⟩
    · have hq := (hR.2.2.2.2.2.1 (zn q) hln).2.2.2 hkd
      refine lv_aload_n X.1 X.2.1 dX9_open_10 rfl (lv_at hl 0 rfl) ?_
      refine zr_get (r := (200 + 2 * (zn q))) (v := .int (u 10 ((zn q)))) X hW fs_X9_267_1 dX9_open_11 hq.1 rfl rfl (congrArg Value.int hq.2.2.1) ?_
      refine lv_iload_n X.1 X.2.1 dX9_open_14 rfl (lv_at hl 3 rfl) ?_
      refine zr_icmp_ne (a := (u 10 ((zn q))).toInt) (b := (key).toInt) (tgt := 22) X dX9_open_15 (by decide) rfl rfl (fun c_5 => ?_) (fun c_5 => ?_)
      · refine lv_null X.1 X.2.1 dX9_open_22 ?_
        exact zr_aret X hW dX9_open_23 (Nat.le_refl _) (Nat.le_refl _) (Or.inl rfl) ⟨rfl, rfl, rfl, Or.inr ⟨by omega, rfl⟩⟩
      · refine lv_aload_n X.1 X.2.1 dX9_open_18 rfl (lv_at hl 0 rfl) ?_
        refine lv_goto (tgt := 23) X.1 X.2.1 dX9_open_19 (by decide) ?_
        exact zr_aret X hW dX9_open_23 (Nat.le_refl _) (Nat.le_refl _) (Or.inr ⟨_, rfl⟩) ⟨rfl, rfl, rfl, Or.inl ⟨by omega, by omega, rfl⟩⟩
  · subst h8
    have h_1 : ¬ zs_sl u q := h_1
    refine lv_astore_nN (lv' := [(3, .null), (0, .ref (ad 100)), (1, .int q), (2, .int key)]) X.1 X.2.1 dX9_open_5 rfl hl (by decide) rfl (fun ls hl => ?_)
    refine lv_aload_nN X.1 X.2.1 dX9_open_6 rfl (lv_at hl 0 rfl) ?_
    refine lv_ifnullN (tgt := 22) X.1 X.2.1 dX9_open_7 (by decide) ?_
    refine lv_null X.1 X.2.1 dX9_open_22 ?_
    exact zr_aret X hW dX9_open_23 (Nat.le_refl _) (Nat.le_refl _) (Or.inl rfl) ⟨rfl, rfl, rfl, Or.inr ⟨by omega, rfl⟩⟩

set_option maxHeartbeats 4000000 in
set_option maxRecDepth 100000 in
theorem c_X9_openProof (l : Launch) (Y : zw_Y) (N0 : Nat) (ad : Nat → Nat) (sh : Nat → Option zw_Sh) (g u : zm_T) (hR : zc_R sh g u) (hI : zm_I u) (q key : Int32) : zw_Met l Y N0 yX9_openProof cX9_openProof 5 (some (.object "TicketRealm$Proof")) 2 44 0 0 ad sh g [.ref (ad 100), .int q, .int key] (fun v ad' sh' g' => ad = ad' ∧ sh = sh' ∧ g = g' ∧ ((zs_op u key q 1 ∧ v = some (.ref (ad (200 + 2 * (zn q))))) ∨ (¬ zs_op u key q 1 ∧ v = some .null))) := by
  refine zw_meth (by decide) (Nat.le_of_ble_eq_true rfl) ?_
  intro p e s m below meth c ls X hnm hl hW
  have hl : lv_has ls 5 [(0, .ref (ad 100)), (1, .int q), (2, .int key)] := hl
  have hS := hR.1
  have hN0 := hR.2.1
  have hse := zI_se hI
  refine lv_aload_n X.1 X.2.1 dX9_openProof_0 rfl (lv_at hl 0 rfl) ?_
  refine lv_iload_n X.1 X.2.1 dX9_openProof_1 rfl (lv_at hl 1 rfl) ?_
  refine lv_iload_n X.1 X.2.1 dX9_openProof_2 rfl (lv_at hl 2 rfl) ?_
  refine zr_callV (As := [.int q, .int key]) (rest := []) X hW hl.1 md_X9_open ms_X9_309 dX9_openProof_3 (zc_s100 hS) rfl rfl rfl rfl (Nat.le_of_ble_eq_true rfl) ⟨Nat.le_of_ble_eq_true rfl, Nat.le_of_ble_eq_true rfl⟩ ⟨Nat.le_of_ble_eq_true rfl, Nat.le_of_ble_eq_true rfl⟩ (c_X9_open l Y N0 ad sh g u hR hI q key) (fun v9 ad9 sh9 g9 H locs hp hW => ?_)
  rcases hp with ⟨rfl, rfl, rfl, ⟨h_1, h_1b, h8⟩ | ⟨h_1, h8⟩⟩
  · subst h8
    have h_1 : zs_sl u q ∧ (u 10 (zn q)).toInt = key.toInt := ⟨h_1, h_1b⟩
    have hln : zn q < zn (u 0 8) := by simp only [zi_n]; omega
    have hki := (zI_sl hI (zn q) (by simp only [zi_n]; omega)).1
    obtain hkd | hkd | hkd | hkd : (u 9 (zn q)).toInt = 1 ∨ (u 9 (zn q)).toInt = 2 ∨ (u 9 (zn q)).toInt = 3 ∨ (u 9 (zn q)).toInt = 4 := by omega
    · have hq := (hR.2.2.2.2.2.1 (zn q) hln).1 hkd
      refine lv_astore (lv' := [(4, .ref (ad (200 + 2 * (zn q)))), (0, .ref (ad 100)), (1, .int q), (2, .int key)]) X.1 X.2.1 dX9_openProof_6 hl (by decide) rfl (fun ls hl => ?_)
      refine lv_aload X.1 X.2.1 dX9_openProof_8 (lv_at hl 0 rfl) ?_
      refine zr_inst (r := (200 + 2 * (zn q))) X hW kl_X9_126 dX9_openProof_10 hq.1 rfl rfl (by decide) ?_
      refine zr_if_eq (a := 1) (tgt := 24) X dX9_openProof_13 (by decide) (by decide) (fun c9 => absurd c9 (by decide)) (fun _ => ?_)
      refine lv_aload X.1 X.2.1 dX9_openProof_16 (lv_at hl 0 rfl) ?_
      refine zr_cast (r := (200 + 2 * (zn q))) X hW kl_X9_126 dX9_openProof_18 hq.1 rfl rfl (by decide) ?_
      refine lv_astore_n (lv' := [(3, .ref (ad (200 + 2 * (zn q)))), (4, .ref (ad (200 + 2 * (zn q)))), (0, .ref (ad 100)), (1, .int q), (2, .int key)]) X.1 X.2.1 dX9_openProof_21 rfl hl (by decide) rfl (fun ls hl => ?_)
      refine lv_aload_n X.1 X.2.1 dX9_openProof_22 rfl (lv_at hl 0 rfl) ?_
      exact zr_aret X hW dX9_openProof_23 (Nat.le_refl _) (Nat.le_refl _) (Or.inr ⟨_, rfl⟩) ⟨rfl, rfl, rfl, Or.inl ⟨by have h9 := (zI_sl hI (zn q) (by simp only [zi_n]; omega)).2.1; omega, rfl⟩⟩
    · have hq := (hR.2.2.2.2.2.1 (zn q) hln).2.1 hkd
      refine lv_astore (lv' := [(4, .ref (ad (200 + 2 * (zn q)))), (0, .ref (ad 100)), (1, .int q), (2, .int key)]) X.1 X.2.1 dX9_openProof_6 hl (by decide) rfl (fun ls hl => ?_)
      refine lv_aload X.1 X.2.1 dX9_openProof_8 (lv_at hl 0 rfl) ?_
      refine zr_instNo (r := (200 + 2 * (zn q))) X hW kl_X9_126 dX9_openProof_10 hq.1 rfl rfl (by decide) ?_
      refine zr_if_eq (a := 0) (tgt := 24) X dX9_openProof_13 (by decide) (by decide) (fun _ => ?_) (fun c9 => absurd c9 (by decide))
      refine lv_null X.1 X.2.1 dX9_openProof_24 ?_
      exact zr_aret X hW dX9_openProof_25 (Nat.le_refl _) (Nat.le_refl _) (Or.inl rfl) ⟨rfl, rfl, rfl, Or.inr ⟨by omega, rfl⟩⟩
    · have hq := (hR.2.2.2.2.2.1 (zn q) hln).2.2.1 hkd
      refine lv_astore (lv' := [(4, .ref (ad (200 + 2 * (zn q)))), (0, .ref (ad 100)), (1, .int q), (2, .int key)]) X.1 X.2.1 dX9_openProof_6 hl (by decide) rfl (fun ls hl => ?_)
      refine lv_aload X.1 X.2.1 dX9_openProof_8 (lv_at hl 0 rfl) ?_
      refine zr_instNo (r := (200 + 2 * (zn q))) X hW kl_X9_126 dX9_openProof_10 hq.1 rfl rfl (by decide) ?_
      refine zr_if_eq (a := 0) (tgt := 24) X dX9_openProof_13 (by decide) (by decide) (fun _ => ?_) (fun c9 => absurd c9 (by decide))
      refine lv_null X.1 X.2.1 dX9_openProof_24 ?_
      exact zr_aret X hW dX9_openProof_25 (Nat.le_refl _) (Nat.le_refl _) (Or.inl rfl) ⟨rfl, rfl, rfl, Or.inr ⟨by omega, rfl⟩⟩
    · have hq := (hR.2.2.2.2.2.1 (zn q) hln).2.2.2 hkd
      refine lv_astore (lv' := [(4, .ref (ad (200 + 2 * (zn q)))), (0, .ref (ad 100)), (1, .int q), (2, .int key)]) X.1 X.2.1 dX9_openProof_6 hl (by decide) rfl (fun ls hl => ?_)
      refine lv_aload X.1 X.2.1 dX9_openProof_8 (lv_at hl 0 rfl) ?_
      refine zr_instNo (r := (200 + 2 * (zn q))) X hW kl_X9_126 dX9_openProof_10 hq.1 rfl rfl (by decide) ?_
      refine zr_if_eq (a := 0) (tgt := 24) X dX9_openProof_13 (by decide) (by decide) (fun _ => ?_) (fun c9 => absurd c9 (by decide))
      refine lv_null X.1 X.2.1 dX9_openProof_24 ?_
      exact zr_aret X hW dX9_openProof_25 (Nat.le_refl _) (Nat.le_refl _) (Or.inl rfl) ⟨rfl, rfl, rfl, Or.inr ⟨by omega, rfl⟩⟩
  · subst h8
    have h_1 : ¬ (zs_sl u q ∧ (u 10 (zn q)).toInt = key.toInt) := h_1
    refine lv_astoreN (lv' := [(4, .null), (0, .ref (ad 100)), (1, .int q), (2, .int key)]) X.1 X.2.1 dX9_openProof_6 hl (by decide) rfl (fun ls hl => ?_)
    refine lv_aloadN X.1 X.2.1 dX9_openProof_8 (lv_at hl 0 rfl) ?_
    refine lv_instN X.1 X.2.1 dX9_openProof_10 ?_
    refine zr_if_eq (a := 0) (tgt := 24) X dX9_openProof_13 (by decide) (by decide) (fun _ => ?_) (fun c9 => absurd c9 (by decide))
    refine lv_null X.1 X.2.1 dX9_openProof_24 ?_
    exact zr_aret X hW dX9_openProof_25 (Nat.le_refl _) (Nat.le_refl _) (Or.inl rfl) ⟨rfl, rfl, rfl, Or.inr ⟨by omega, rfl⟩⟩

set_option maxHeartbeats 4000000 in
set_option maxRecDepth 100000 in
theorem c_X9_openTicket (l : Launch) (Y : zw_Y) (N0 : Nat) (ad : Nat → Nat) (sh : Nat → Option zw_Sh) (g u : zm_T) (hR : zc_R sh g u) (hI : zm_I u) (q key : Int32) : zw_Met l Y N0 yX9_openTicket cX9_openTicket 5 (some (.object "TicketRealm$Ticket")) 2 44 0 0 ad sh g [.ref (ad 100), .int q, .int key] (fun v ad' sh' g' => ad = ad' ∧ sh = sh' ∧ g = g' ∧ ((zs_op u key q 2 ∧ v = some (.ref (ad (200 + 2 * (zn q))))) ∨ (¬ zs_op u key q 2 ∧ v = some .null))) := by
  refine zw_meth (by decide) (Nat.le_of_ble_eq_true rfl) ?_
  intro p e s m below meth c ls X hnm hl hW
  have hl : lv_has ls 5 [(0, .ref (ad 100)), (1, .int q), (2, .int key)] := hl
  have hS := hR.1
  have hN0 := hR.2.1
  have hse := zI_se hI
  refine lv_aload_n X.1 X.2.1 dX9_openTicket_0 rfl (lv_at hl 0 rfl) ?_
  refine lv_iload_n X.1 X.2.1 dX9_openTicket_1 rfl (lv_at hl 1 rfl) ?_
  refine lv_iload_n X.1 X.2.1 dX9_openTicket_2 rfl (lv_at hl 2 rfl) ?_
  refine zr_callV (As := [.int q, .int key]) (rest := []) X hW hl.1 md_X9_open ms_X9_309 dX9_openTicket_3 (zc_s100 hS) rfl rfl rfl rfl (Nat.le_of_ble_eq_true rfl) ⟨Nat.le_of_ble_eq_true rfl, Nat.le_of_ble_eq_true rfl⟩ ⟨Nat.le_of_ble_eq_true rfl, Nat.le_of_ble_eq_true rfl⟩ (c_X9_open l Y N0 ad sh g u hR hI q key) (fun v9 ad9 sh9 g9 H locs hp hW => ?_)
  rcases hp with ⟨rfl, rfl, rfl, ⟨h_1, h_1b, h8⟩ | ⟨h_1, h8⟩⟩
  · subst h8
    have h_1 : zs_sl u q ∧ (u 10 (zn q)).toInt = key.toInt := ⟨h_1, h_1b⟩
    have hln : zn q < zn (u 0 8) := by simp only [zi_n]; omega
    have hki := (zI_sl hI (zn q) (by simp only [zi_n]; omega)).1
    obtain hkd | hkd | hkd | hkd : (u 9 (zn q)).toInt = 1 ∨ (u 9 (zn q)).toInt = 2 ∨ (u 9 (zn q)).toInt = 3 ∨ (u 9 (zn q)).toInt = 4 := by omega
    · have hq := (hR.2.2.2.2.2.1 (zn q) hln).1 hkd
      refine lv_astore (lv' := [(4, .ref (ad (200 + 2 * (zn q)))), (0, .ref (ad 100)), (1, .int q), (2, .int key)]) X.1 X.2.1 dX9_openTicket_6 hl (by decide) rfl (fun ls hl => ?_)
      refine lv_aload X.1 X.2.1 dX9_openTicket_8 (lv_at hl 0 rfl) ?_
      refine zr_instNo (r := (200 + 2 * (zn q))) X hW kl_X9_221 dX9_openTicket_10 hq.1 rfl rfl (by decide) ?_
      refine zr_if_eq (a := 0) (tgt := 24) X dX9_openTicket_13 (by decide) (by decide) (fun _ => ?_) (fun c9 => absurd c9 (by decide))
      refine lv_null X.1 X.2.1 dX9_openTicket_24 ?_
      exact zr_aret X hW dX9_openTicket_25 (Nat.le_refl _) (Nat.le_refl _) (Or.inl rfl) ⟨rfl, rfl, rfl, Or.inr ⟨by omega, rfl⟩⟩
    · have hq := (hR.2.2.2.2.2.1 (zn q) hln).2.1 hkd
      refine lv_astore (lv' := [(4, .ref (ad (200 + 2 * (zn q)))), (0, .ref (ad 100)), (1, .int q), (2, .int key)]) X.1 X.2.1 dX9_openTicket_6 hl (by decide) rfl (fun ls hl => ?_)
      refine lv_aload X.1 X.2.1 dX9_openTicket_8 (lv_at hl 0 rfl) ?_
      refine zr_inst (r := (200 + 2 * (zn q))) X hW kl_X9_221 dX9_openTicket_10 hq.1 rfl rfl (by decide) ?_
      refine zr_if_eq (a := 1) (tgt := 24) X dX9_openTicket_13 (by decide) (by decide) (fun c9 => absurd c9 (by decide)) (fun _ => ?_)
      refine lv_aload X.1 X.2.1 dX9_openTicket_16 (lv_at hl 0 rfl) ?_
      refine zr_cast (r := (200 + 2 * (zn q))) X hW kl_X9_221 dX9_openTicket_18 hq.1 rfl rfl (by decide) ?_
      refine lv_astore_n (lv' := [(3, .ref (ad (200 + 2 * (zn q)))), (4, .ref (ad (200 + 2 * (zn q)))), (0, .ref (ad 100)), (1, .int q), (2, .int key)]) X.1 X.2.1 dX9_openTicket_21 rfl hl (by decide) rfl (fun ls hl => ?_)
      refine lv_aload_n X.1 X.2.1 dX9_openTicket_22 rfl (lv_at hl 0 rfl) ?_
      exact zr_aret X hW dX9_openTicket_23 (Nat.le_refl _) (Nat.le_refl _) (Or.inr ⟨_, rfl⟩) ⟨rfl, rfl, rfl, Or.inl ⟨by have h9 := (zI_sl hI (zn q) (by simp only [zi_n]; omega)).2.1; omega, rfl⟩⟩
    · have hq := (hR.2.2.2.2.2.1 (zn q) hln).2.2.1 hkd
      refine lv_astore (lv' := [(4, .ref (ad (200 + 2 * (zn q)))), (0, .ref (ad 100)), (1, .int q), (2, .int key)]) X.1 X.2.1 dX9_openTicket_6 hl (by decide) rfl (fun ls hl => ?_)
      refine lv_aload X.1 X.2.1 dX9_openTicket_8 (lv_at hl 0 rfl) ?_
      refine zr_instNo (r := (200 + 2 * (zn q))) X hW kl_X9_221 dX9_openTicket_10 hq.1 rfl rfl (by decide) ?_
      refine zr_if_eq (a := 0) (tgt := 24) X dX9_openTicket_13 (by decide) (by decide) (fun _ => ?_) (fun c9 => absurd c9 (by decide))
      refine lv_null X.1 X.2.1 dX9_openTicket_24 ?_
      exact zr_aret X hW dX9_openTicket_25 (Nat.le_refl _) (Nat.le_refl _) (Or.inl rfl) ⟨rfl, rfl, rfl, Or.inr ⟨by omega, rfl⟩⟩
    · have hq := (hR.2.2.2.2.2.1 (zn q) hln).2.2.2 hkd
      refine lv_astore (lv' := [(4, .ref (ad (200 + 2 * (zn q)))), (0, .ref (ad 100)), (1, .int q), (2, .int key)]) X.1 X.2.1 dX9_openTicket_6 hl (by decide) rfl (fun ls hl => ?_)
      refine lv_aload X.1 X.2.1 dX9_openTicket_8 (lv_at hl 0 rfl) ?_
      refine zr_instNo (r := (200 + 2 * (zn q))) X hW kl_X9_221 dX9_openTicket_10 hq.1 rfl rfl (by decide) ?_
      refine zr_if_eq (a := 0) (tgt := 24) X dX9_openTicket_13 (by decide) (by decide) (fun _ => ?_) (fun c9 => absurd c9 (by decide))
      refine lv_null X.1 X.2.1 dX9_openTicket_24 ?_
      exact zr_aret X hW dX9_openTicket_25 (Nat.le_refl _) (Nat.le_refl _) (Or.inl rfl) ⟨rfl, rfl, rfl, Or.inr ⟨by omega, rfl⟩⟩
  · subst h8
    have h_1 : ¬ (zs_sl u q ∧ (u 10 (zn q)).toInt = key.toInt) := h_1
    refine lv_astoreN (lv' := [(4, .null), (0, .ref (ad 100)), (1, .int q), (2, .int key)]) X.1 X.2.1 dX9_openTicket_6 hl (by decide) rfl (fun ls hl => ?_)
    refine lv_aloadN X.1 X.2.1 dX9_openTicket_8 (lv_at hl 0 rfl) ?_
    refine lv_instN X.1 X.2.1 dX9_openTicket_10 ?_
    refine zr_if_eq (a := 0) (tgt := 24) X dX9_openTicket_13 (by decide) (by decide) (fun _ => ?_) (fun c9 => absurd c9 (by decide))
    refine lv_null X.1 X.2.1 dX9_openTicket_24 ?_
    exact zr_aret X hW dX9_openTicket_25 (Nat.le_refl _) (Nat.le_refl _) (Or.inl rfl) ⟨rfl, rfl, rfl, Or.inr ⟨by omega, rfl⟩⟩

set_option maxHeartbeats 4000000 in
set_option maxRecDepth 100000 in
theorem c_X9_openPart (l : Launch) (Y : zw_Y) (N0 : Nat) (ad : Nat → Nat) (sh : Nat → Option zw_Sh) (g u : zm_T) (hR : zc_R sh g u) (hI : zm_I u) (q key : Int32) : zw_Met l Y N0 yX9_openPart cX9_openPart 5 (some (.object "TicketRealm$Part")) 2 44 0 0 ad sh g [.ref (ad 100), .int q, .int key] (fun v ad' sh' g' => ad = ad' ∧ sh = sh' ∧ g = g' ∧ ((zs_op u key q 3 ∧ v = some (.ref (ad (200 + 2 * (zn q))))) ∨ (¬ zs_op u key q 3 ∧ v = some .null))) := by
  refine zw_meth (by decide) (Nat.le_of_ble_eq_true rfl) ?_
  intro p e s m below meth c ls X hnm hl hW
  have hl : lv_has ls 5 [(0, .ref (ad 100)), (1, .int q), (2, .int key)] := hl
  have hS := hR.1
  have hN0 := hR.2.1
  have hse := zI_se hI
  refine lv_aload_n X.1 X.2.1 dX9_openPart_0 rfl (lv_at hl 0 rfl) ?_
  refine lv_iload_n X.1 X.2.1 dX9_openPart_1 rfl (lv_at hl 1 rfl) ?_
  refine lv_iload_n X.1 X.2.1 dX9_openPart_2 rfl (lv_at hl 2 rfl) ?_
  refine zr_callV (As := [.int q, .int key]) (rest := []) X hW hl.1 md_X9_open ms_X9_309 dX9_openPart_3 (zc_s100 hS) rfl rfl rfl rfl (Nat.le_of_ble_eq_true rfl) ⟨Nat.le_of_ble_eq_true rfl, Nat.le_of_ble_eq_true rfl⟩ ⟨Nat.le_of_ble_eq_true rfl, Nat.le_of_ble_eq_true rfl⟩ (c_X9_open l Y N0 ad sh g u hR hI q key) (fun v9 ad9 sh9 g9 H locs hp hW => ?_)
  rcases hp with ⟨rfl, rfl, rfl, ⟨h_1, h_1b, h8⟩ | ⟨h_1, h8⟩⟩
  · subst h8
    have h_1 : zs_sl u q ∧ (u 10 (zn q)).toInt = key.toInt := ⟨h_1, h_1b⟩
    have hln : zn q < zn (u 0 8) := by simp only [zi_n]; omega
    have hki := (zI_sl hI (zn q) (by simp only [zi_n]; omega)).1
    obtain hkd | hkd | hkd | hkd : (u 9 (zn q)).toInt = 1 ∨ (u 9 (zn q)).toInt = 2 ∨ (u 9 (zn q)).toInt = 3 ∨ (u 9 (zn q)).toInt = 4 := by omega
    · have hq := (hR.2.2.2.2.2.1 (zn q) hln).1 hkd
      refine lv_astore (lv' := [(4, .ref (ad (200 + 2 * (zn q)))), (0, .ref (ad 100)), (1, .int q), (2, .int key)]) X.1 X.2.1 dX9_openPart_6 hl (by decide) rfl (fun ls hl => ?_)
      refine lv_aload X.1 X.2.1 dX9_openPart_8 (lv_at hl 0 rfl) ?_
      refine zr_instNo (r := (200 + 2 * (zn q))) X hW kl_X9_167 dX9_openPart_10 hq.1 rfl rfl (by decide) ?_
      refine zr_if_eq (a := 0) (tgt := 24) X dX9_openPart_13 (by decide) (by decide) (fun _ => ?_) (fun c9 => absurd c9 (by decide))
      refine lv_null X.1 X.2.1 dX9_openPart_24 ?_
      exact zr_aret X hW dX9_openPart_25 (Nat.le_refl _) (Nat.le_refl _) (Or.inl rfl) ⟨rfl, rfl, rfl, Or.inr ⟨by omega, rfl⟩⟩
    · have hq := (hR.2.2.2.2.2.1 (zn q) hln).2.1 hkd
      refine lv_astore (lv' := [(4, .ref (ad (200 + 2 * (zn q)))), (0, .ref (ad 100)), (1, .int q), (2, .int key)]) X.1 X.2.1 dX9_openPart_6 hl (by decide) rfl (fun ls hl => ?_)
      refine lv_aload X.1 X.2.1 dX9_openPart_8 (lv_at hl 0 rfl) ?_
      refine zr_instNo (r := (200 + 2 * (zn q))) X hW kl_X9_167 dX9_openPart_10 hq.1 rfl rfl (by decide) ?_
      refine zr_if_eq (a := 0) (tgt := 24) X dX9_openPart_13 (by decide) (by decide) (fun _ => ?_) (fun c9 => absurd c9 (by decide))
      refine lv_null X.1 X.2.1 dX9_openPart_24 ?_
      exact zr_aret X hW dX9_openPart_25 (Nat.le_refl _) (Nat.le_refl _) (Or.inl rfl) ⟨rfl, rfl, rfl, Or.inr ⟨by omega, rfl⟩⟩
    · have hq := (hR.2.2.2.2.2.1 (zn q) hln).2.2.1 hkd
      refine lv_astore (lv' := [(4, .ref (ad (200 + 2 * (zn q)))), (0, .ref (ad 100)), (1, .int q), (2, .int key)]) X.1 X.2.1 dX9_openPart_6 hl (by decide) rfl (fun ls hl => ?_)
      refine lv_aload X.1 X.2.1 dX9_openPart_8 (lv_at hl 0 rfl) ?_
      refine zr_inst (r := (200 + 2 * (zn q))) X hW kl_X9_167 dX9_openPart_10 hq.1 rfl rfl (by decide) ?_
      refine zr_if_eq (a := 1) (tgt := 24) X dX9_openPart_13 (by decide) (by decide) (fun c9 => absurd c9 (by decide)) (fun _ => ?_)
      refine lv_aload X.1 X.2.1 dX9_openPart_16 (lv_at hl 0 rfl) ?_
      refine zr_cast (r := (200 + 2 * (zn q))) X hW kl_X9_167 dX9_openPart_18 hq.1 rfl rfl (by decide) ?_
      refine lv_astore_n (lv' := [(3, .ref (ad (200 + 2 * (zn q)))), (4, .ref (ad (200 + 2 * (zn q)))), (0, .ref (ad 100)), (1, .int q), (2, .int key)]) X.1 X.2.1 dX9_openPart_21 rfl hl (by decide) rfl (fun ls hl => ?_)
      refine lv_aload_n X.1 X.2.1 dX9_openPart_22 rfl (lv_at hl 0 rfl) ?_
      exact zr_aret X hW dX9_openPart_23 (Nat.le_refl _) (Nat.le_refl _) (Or.inr ⟨_, rfl⟩) ⟨rfl, rfl, rfl, Or.inl ⟨by have h9 := (zI_sl hI (zn q) (by simp only [zi_n]; omega)).2.1; omega, rfl⟩⟩
    · have hq := (hR.2.2.2.2.2.1 (zn q) hln).2.2.2 hkd
      refine lv_astore (lv' := [(4, .ref (ad (200 + 2 * (zn q)))), (0, .ref (ad 100)), (1, .int q), (2, .int key)]) X.1 X.2.1 dX9_openPart_6 hl (by decide) rfl (fun ls hl => ?_)
      refine lv_aload X.1 X.2.1 dX9_openPart_8 (lv_at hl 0 rfl) ?_
      refine zr_instNo (r := (200 + 2 * (zn q))) X hW kl_X9_167 dX9_openPart_10 hq.1 rfl rfl (by decide) ?_
      refine zr_if_eq (a := 0) (tgt := 24) X dX9_openPart_13 (by decide) (by decide) (fun _ => ?_) (fun c9 => absurd c9 (by decide))
      refine lv_null X.1 X.2.1 dX9_openPart_24 ?_
      exact zr_aret X hW dX9_openPart_25 (Nat.le_refl _) (Nat.le_refl _) (Or.inl rfl) ⟨rfl, rfl, rfl, Or.inr ⟨by omega, rfl⟩⟩
  · subst h8
    have h_1 : ¬ (zs_sl u q ∧ (u 10 (zn q)).toInt = key.toInt) := h_1
    refine lv_astoreN (lv' := [(4, .null), (0, .ref (ad 100)), (1, .int q), (2, .int key)]) X.1 X.2.1 dX9_openPart_6 hl (by decide) rfl (fun ls hl => ?_)
    refine lv_aloadN X.1 X.2.1 dX9_openPart_8 (lv_at hl 0 rfl) ?_
    refine lv_instN X.1 X.2.1 dX9_openPart_10 ?_
    refine zr_if_eq (a := 0) (tgt := 24) X dX9_openPart_13 (by decide) (by decide) (fun _ => ?_) (fun c9 => absurd c9 (by decide))
    refine lv_null X.1 X.2.1 dX9_openPart_24 ?_
    exact zr_aret X hW dX9_openPart_25 (Nat.le_refl _) (Nat.le_refl _) (Or.inl rfl) ⟨rfl, rfl, rfl, Or.inr ⟨by omega, rfl⟩⟩

set_option maxHeartbeats 4000000 in
set_option maxRecDepth 100000 in
theorem c_X9_openClaim (l : Launch) (Y : zw_Y) (N0 : Nat) (ad : Nat → Nat) (sh : Nat → Option zw_Sh) (g u : zm_T) (hR : zc_R sh g u) (hI : zm_I u) (q key : Int32) : zw_Met l Y N0 yX9_openClaim cX9_openClaim 5 (some (.object "TicketRealm$Claim")) 2 44 0 0 ad sh g [.ref (ad 100), .int q, .int key] (fun v ad' sh' g' => ad = ad' ∧ sh = sh' ∧ g = g' ∧ ((zs_op u key q 4 ∧ v = some (.ref (ad (200 + 2 * (zn q))))) ∨ (¬ zs_op u key q 4 ∧ v = some .null))) := by
  refine zw_meth (by decide) (Nat.le_of_ble_eq_true rfl) ?_
  intro p e s m below meth c ls X hnm hl hW
  have hl : lv_has ls 5 [(0, .ref (ad 100)), (1, .int q), (2, .int key)] := hl
  have hS := hR.1
  have hN0 := hR.2.1
  have hse := zI_se hI
  refine lv_aload_n X.1 X.2.1 dX9_openClaim_0 rfl (lv_at hl 0 rfl) ?_
  refine lv_iload_n X.1 X.2.1 dX9_openClaim_1 rfl (lv_at hl 1 rfl) ?_
  refine lv_iload_n X.1 X.2.1 dX9_openClaim_2 rfl (lv_at hl 2 rfl) ?_
  refine zr_callV (As := [.int q, .int key]) (rest := []) X hW hl.1 md_X9_open ms_X9_309 dX9_openClaim_3 (zc_s100 hS) rfl rfl rfl rfl (Nat.le_of_ble_eq_true rfl) ⟨Nat.le_of_ble_eq_true rfl, Nat.le_of_ble_eq_true rfl⟩ ⟨Nat.le_of_ble_eq_true rfl, Nat.le_of_ble_eq_true rfl⟩ (c_X9_open l Y N0 ad sh g u hR hI q key) (fun v9 ad9 sh9 g9 H locs hp hW => ?_)
  rcases hp with ⟨rfl, rfl, rfl, ⟨h_1, h_1b, h8⟩ | ⟨h_1, h8⟩⟩
  · subst h8
    have h_1 : zs_sl u q ∧ (u 10 (zn q)).toInt = key.toInt := ⟨h_1, h_1b⟩
    have hln : zn q < zn (u 0 8) := by simp only [zi_n]; omega
    have hki := (zI_sl hI (zn q) (by simp only [zi_n]; omega)).1
    obtain hkd | hkd | hkd | hkd : (u 9 (zn q)).toInt = 1 ∨ (u 9 (zn q)).toInt = 2 ∨ (u 9 (zn q)).toInt = 3 ∨ (u 9 (zn q)).toInt = 4 := by omega
    · have hq := (hR.2.2.2.2.2.1 (zn q) hln).1 hkd
      refine lv_astore (lv' := [(4, .ref (ad (200 + 2 * (zn q)))), (0, .ref (ad 100)), (1, .int q), (2, .int key)]) X.1 X.2.1 dX9_openClaim_6 hl (by decide) rfl (fun ls hl => ?_)
      refine lv_aload X.1 X.2.1 dX9_openClaim_8 (lv_at hl 0 rfl) ?_
      refine zr_instNo (r := (200 + 2 * (zn q))) X hW kl_X9_140 dX9_openClaim_10 hq.1 rfl rfl (by decide) ?_
      refine zr_if_eq (a := 0) (tgt := 24) X dX9_openClaim_13 (by decide) (by decide) (fun _ => ?_) (fun c9 => absurd c9 (by decide))
      refine lv_null X.1 X.2.1 dX9_openClaim_24 ?_
      exact zr_aret X hW dX9_openClaim_25 (Nat.le_refl _) (Nat.le_refl _) (Or.inl rfl) ⟨rfl, rfl, rfl, Or.inr ⟨by omega, rfl⟩⟩
    · have hq := (hR.2.2.2.2.2.1 (zn q) hln).2.1 hkd
      refine lv_astore (lv' := [(4, .ref (ad (200 + 2 * (zn q)))), (0, .ref (ad 100)), (1, .int q), (2, .int key)]) X.1 X.2.1 dX9_openClaim_6 hl (by decide) rfl (fun ls hl => ?_)
      refine lv_aload X.1 X.2.1 dX9_openClaim_8 (lv_at hl 0 rfl) ?_
      refine zr_instNo (r := (200 + 2 * (zn q))) X hW kl_X9_140 dX9_openClaim_10 hq.1 rfl rfl (by decide) ?_
      refine zr_if_eq (a := 0) (tgt := 24) X dX9_openClaim_13 (by decide) (by decide) (fun _ => ?_) (fun c9 => absurd c9 (by decide))
      refine lv_null X.1 X.2.1 dX9_openClaim_24 ?_
      exact zr_aret X hW dX9_openClaim_25 (Nat.le_refl _) (Nat.le_refl _) (Or.inl rfl) ⟨rfl, rfl, rfl, Or.inr ⟨by omega, rfl⟩⟩
    · have hq := (hR.2.2.2.2.2.1 (zn q) hln).2.2.1 hkd
      refine lv_astore (lv' := [(4, .ref (ad (200 + 2 * (zn q)))), (0, .ref (ad 100)), (1, .int q), (2, .int key)]) X.1 X.2.1 dX9_openClaim_6 hl (by decide) rfl (fun ls hl => ?_)
      refine lv_aload X.1 X.2.1 dX9_openClaim_8 (lv_at hl 0 rfl) ?_
      refine zr_instNo (r := (200 + 2 * (zn q))) X hW kl_X9_140 dX9_openClaim_10 hq.1 rfl rfl (by decide) ?_
      refine zr_if_eq (a := 0) (tgt := 24) X dX9_openClaim_13 (by decide) (by decide) (fun _ => ?_) (fun c9 => absurd c9 (by decide))
      refine lv_null X.1 X.2.1 dX9_openClaim_24 ?_
      exact zr_aret X hW dX9_openClaim_25 (Nat.le_refl _) (Nat.le_refl _) (Or.inl rfl) ⟨rfl, rfl, rfl, Or.inr ⟨by omega, rfl⟩⟩
    · have hq := (hR.2.2.2.2.2.1 (zn q) hln).2.2.2 hkd
      refine lv_astore (lv' := [(4, .ref (ad (200 + 2 * (zn q)))), (0, .ref (ad 100)), (1, .int q), (2, .int key)]) X.1 X.2.1 dX9_openClaim_6 hl (by decide) rfl (fun ls hl => ?_)
      refine lv_aload X.1 X.2.1 dX9_openClaim_8 (lv_at hl 0 rfl) ?_
      refine zr_inst (r := (200 + 2 * (zn q))) X hW kl_X9_140 dX9_openClaim_10 hq.1 rfl rfl (by decide) ?_
      refine zr_if_eq (a := 1) (tgt := 24) X dX9_openClaim_13 (by decide) (by decide) (fun c9 => absurd c9 (by decide)) (fun _ => ?_)
      refine lv_aload X.1 X.2.1 dX9_openClaim_16 (lv_at hl 0 rfl) ?_
      refine zr_cast (r := (200 + 2 * (zn q))) X hW kl_X9_140 dX9_openClaim_18 hq.1 rfl rfl (by decide) ?_
      refine lv_astore_n (lv' := [(3, .ref (ad (200 + 2 * (zn q)))), (4, .ref (ad (200 + 2 * (zn q)))), (0, .ref (ad 100)), (1, .int q), (2, .int key)]) X.1 X.2.1 dX9_openClaim_21 rfl hl (by decide) rfl (fun ls hl => ?_)
      refine lv_aload_n X.1 X.2.1 dX9_openClaim_22 rfl (lv_at hl 0 rfl) ?_
      exact zr_aret X hW dX9_openClaim_23 (Nat.le_refl _) (Nat.le_refl _) (Or.inr ⟨_, rfl⟩) ⟨rfl, rfl, rfl, Or.inl ⟨by have h9 := (zI_sl hI (zn q) (by simp only [zi_n]; omega)).2.1; omega, rfl⟩⟩
  · subst h8
    have h_1 : ¬ (zs_sl u q ∧ (u 10 (zn q)).toInt = key.toInt) := h_1
    refine lv_astoreN (lv' := [(4, .null), (0, .ref (ad 100)), (1, .int q), (2, .int key)]) X.1 X.2.1 dX9_openClaim_6 hl (by decide) rfl (fun ls hl => ?_)
    refine lv_aloadN X.1 X.2.1 dX9_openClaim_8 (lv_at hl 0 rfl) ?_
    refine lv_instN X.1 X.2.1 dX9_openClaim_10 ?_
    refine zr_if_eq (a := 0) (tgt := 24) X dX9_openClaim_13 (by decide) (by decide) (fun _ => ?_) (fun c9 => absurd c9 (by decide))
    refine lv_null X.1 X.2.1 dX9_openClaim_24 ?_
    exact zr_aret X hW dX9_openClaim_25 (Nat.le_refl _) (Nat.le_refl _) (Or.inl rfl) ⟨rfl, rfl, rfl, Or.inr ⟨by omega, rfl⟩⟩

set_option maxHeartbeats 4000000 in
set_option maxRecDepth 100000 in
theorem c_X9_firstEnd (l : Launch) (Y : zw_Y) (N0 : Nat) (ad : Nat → Nat) (sh : Nat → Option zw_Sh) (g u : zm_T) (hS : zc_S sh) (hN : zc_N g u) (cn t li : Int32) (hc : zi_in cn 0 5) (ht : zi_in t 0 5) : zw_Met l Y N0 yX9_firstEnd cX9_firstEnd 5 (some .int) 1 21 0 0 ad sh g [.ref (ad 100), .int cn, .int t, .int li] (zp_I ad sh g (fun r => r = u 1 0 + zs_mi li (zs_mi (u 6 (zn cn)) (u 6 (zn t))))) := by
  refine zw_meth (by decide) (Nat.le_of_ble_eq_true rfl) ?_
  intro p e s m below meth c ls X hnm hl hW
  have hl : lv_has ls 5 [(0, .ref (ad 100)), (1, .int cn), (2, .int t), (3, .int li)] := hl
  have hN0 := hN
  refine lv_iload_n X.1 X.2.1 dX9_firstEnd_0 rfl (lv_at hl 3 rfl) ?_
  refine lv_aload_n X.1 X.2.1 dX9_firstEnd_1 rfl (lv_at hl 0 rfl) ?_
  refine zr_get (r := 100) (v := .ref (ad 103)) X hW fs_X9_19_8 dX9_firstEnd_2 (zc_s100 hS) rfl rfl rfl ?_
  refine zr_get (r := 103) (v := .ref (ad 110)) X hW fs_X9_95_0 dX9_firstEnd_5 (zc_s103 hS) rfl rfl rfl ?_
  refine lv_iload_n X.1 X.2.1 dX9_firstEnd_8 rfl (lv_at hl 1 rfl) ?_
  refine zr_iald (r := 110) (v := u 6 (zn cn)) X hW dX9_firstEnd_9 (zc_s110 hS) rfl rfl (zi_vp (by omega)) (hN0 _ _ _ _ (zc_l110 (zi_nl (by omega) (by decide)))) ?_
  refine lv_aload_n X.1 X.2.1 dX9_firstEnd_10 rfl (lv_at hl 0 rfl) ?_
  refine zr_get (r := 100) (v := .ref (ad 103)) X hW fs_X9_19_8 dX9_firstEnd_11 (zc_s100 hS) rfl rfl rfl ?_
  refine zr_get (r := 103) (v := .ref (ad 110)) X hW fs_X9_95_0 dX9_firstEnd_14 (zc_s103 hS) rfl rfl rfl ?_
  refine lv_iload_n X.1 X.2.1 dX9_firstEnd_17 rfl (lv_at hl 2 rfl) ?_
  refine zr_iald (r := 110) (v := u 6 (zn t)) X hW dX9_firstEnd_18 (zc_s110 hS) rfl rfl (zi_vp (by omega)) (hN0 _ _ _ _ (zc_l110 (zi_nl (by omega) (by decide)))) ?_
  refine zr_min X hl.1 (zt_in (zt_t1 71 rfl) rfl) dX9_firstEnd_19 (Nat.le_of_ble_eq_true rfl) (Nat.le_of_ble_eq_true rfl) (Nat.le_of_ble_eq_true rfl) (Nat.le_of_ble_eq_true rfl) (Nat.le_of_ble_eq_true rfl) ?_
  refine zr_min X hl.1 (zt_in (zt_t1 71 rfl) rfl) dX9_firstEnd_22 (Nat.le_of_ble_eq_true rfl) (Nat.le_of_ble_eq_true rfl) (Nat.le_of_ble_eq_true rfl) (Nat.le_of_ble_eq_true rfl) (Nat.le_of_ble_eq_true rfl) ?_
  refine lv_istore (lv' := [(4, .int (zs_mi li (zs_mi (u 6 (zn cn)) (u 6 (zn t))))), (0, .ref (ad 100)), (1, .int cn), (2, .int t), (3, .int li)]) X.1 X.2.1 dX9_firstEnd_25 hl (by decide) rfl (fun ls hl => ?_)
  refine lv_aload_n X.1 X.2.1 dX9_firstEnd_27 rfl (lv_at hl 1 rfl) ?_
  refine zr_get (r := 100) (v := .ref (ad 101)) X hW fs_X9_9_8 dX9_firstEnd_28 (zc_s100 hS) rfl rfl rfl ?_
  refine lv_iconst (v := 0) X.1 X.2.1 dX9_firstEnd_31 (by decide) ?_
  refine zr_iald (r := 101) (v := u 1 0) X hW dX9_firstEnd_32 (zc_s101 hS) rfl rfl (zi_vp (by decide)) ((show g 101 (0 : Int32).toNatClampNeg = g 101 0 from rfl).trans (hN0 _ _ _ _ rfl)) ?_
  refine lv_iload X.1 X.2.1 dX9_firstEnd_33 (lv_at hl 0 rfl) ?_
  refine lv_iadd X.1 X.2.1 dX9_firstEnd_35 ?_
  exact zr_iret X hW dX9_firstEnd_36 (Nat.le_refl _) (Nat.le_refl _) ⟨rfl, rfl, rfl, _, rfl, rfl⟩

set_option maxHeartbeats 4000000 in
set_option maxRecDepth 100000 in
theorem c_X9_openNonce (l : Launch) (Y : zw_Y) (N0 : Nat) (ad : Nat → Nat) (sh : Nat → Option zw_Sh) (g u : zm_T) (hS : zc_S sh) (hN : zc_N g u) (a : Int32) : zw_Met l Y N0 yX9_openNonce cX9_openNonce 3 (some .int) 2 41 0 0 ad sh g [.ref (ad 100), .int a] (zp_I ad sh g (fun r => r = if zs_us a then u 20 (zn a) else -1)) := by
  refine zw_meth (by decide) (Nat.le_of_ble_eq_true rfl) ?_
  intro p e s m below meth c ls X hnm hl hW
  have hl : lv_has ls 3 [(0, .ref (ad 100)), (1, .int a)] := hl
  have hN0 := hN
  refine lv_aload_n X.1 X.2.1 dX9_openNonce_0 rfl (lv_at hl 0 rfl) ?_
  refine lv_iload_n X.1 X.2.1 dX9_openNonce_1 rfl (lv_at hl 1 rfl) ?_
  refine zr_callV (As := [.int a]) (rest := []) X hW hl.1 md_X9_userAt ms_X9_112 dX9_openNonce_2 (zc_s100 hS) rfl rfl rfl rfl (Nat.le_of_ble_eq_true rfl) ⟨Nat.le_of_ble_eq_true rfl, Nat.le_of_ble_eq_true rfl⟩ ⟨Nat.le_of_ble_eq_true rfl, Nat.le_of_ble_eq_true rfl⟩ (c_X9_userAt l Y N0 ad sh g hS a) (fun v9 ad9 sh9 g9 H locs hp hW => ?_)
  rcases hp with ⟨rfl, rfl, rfl, ⟨h9, h8⟩ | ⟨h9, h8⟩ | ⟨h9, h8⟩ | ⟨h9, h8⟩ | ⟨h9, h8⟩⟩
  · subst h8
    subst h9
    refine lv_astore_n (lv' := [(2, .ref (ad 115)), (0, .ref (ad 100)), (1, .int 2)]) X.1 X.2.1 dX9_openNonce_5 rfl hl (by decide) rfl (fun ls hl => ?_)
    refine lv_aload_n X.1 X.2.1 dX9_openNonce_6 rfl (lv_at hl 0 rfl) ?_
    refine lv_ifnonnull (tgt := 14) X.1 X.2.1 dX9_openNonce_7 (by decide) ?_
    refine lv_aload_n X.1 X.2.1 dX9_openNonce_14 rfl (lv_at hl 0 rfl) ?_
    refine zr_get (r := 115) (v := .int (u 20 2)) X hW fs_X9_171_7 dX9_openNonce_15 (zc_s115 hS) rfl rfl (congrArg Value.int (hN0 _ _ _ _ rfl)) ?_
    exact zr_iret X hW dX9_openNonce_18 (Nat.le_refl _) (Nat.le_refl _) ⟨rfl, rfl, rfl, _, rfl, (if_pos (show zs_us 2 by decide)).symm⟩
  · subst h8
    subst h9
    refine lv_astore_n (lv' := [(2, .ref (ad 116)), (0, .ref (ad 100)), (1, .int 3)]) X.1 X.2.1 dX9_openNonce_5 rfl hl (by decide) rfl (fun ls hl => ?_)
    refine lv_aload_n X.1 X.2.1 dX9_openNonce_6 rfl (lv_at hl 0 rfl) ?_
    refine lv_ifnonnull (tgt := 14) X.1 X.2.1 dX9_openNonce_7 (by decide) ?_
    refine lv_aload_n X.1 X.2.1 dX9_openNonce_14 rfl (lv_at hl 0 rfl) ?_
    refine zr_get (r := 116) (v := .int (u 20 3)) X hW fs_X9_171_7 dX9_openNonce_15 (zc_s116 hS) rfl rfl (congrArg Value.int (hN0 _ _ _ _ rfl)) ?_
    exact zr_iret X hW dX9_openNonce_18 (Nat.le_refl _) (Nat.le_refl _) ⟨rfl, rfl, rfl, _, rfl, (if_pos (show zs_us 3 by decide)).symm⟩
  · subst h8
    subst h9
    refine lv_astore_n (lv' := [(2, .ref (ad 117)), (0, .ref (ad 100)), (1, .int 4)]) X.1 X.2.1 dX9_openNonce_5 rfl hl (by decide) rfl (fun ls hl => ?_)
    refine lv_aload_n X.1 X.2.1 dX9_openNonce_6 rfl (lv_at hl 0 rfl) ?_
    refine lv_ifnonnull (tgt := 14) X.1 X.2.1 dX9_openNonce_7 (by decide) ?_
    refine lv_aload_n X.1 X.2.1 dX9_openNonce_14 rfl (lv_at hl 0 rfl) ?_
    refine zr_get (r := 117) (v := .int (u 20 4)) X hW fs_X9_171_7 dX9_openNonce_15 (zc_s117 hS) rfl rfl (congrArg Value.int (hN0 _ _ _ _ rfl)) ?_
    exact zr_iret X hW dX9_openNonce_18 (Nat.le_refl _) (Nat.le_refl _) ⟨rfl, rfl, rfl, _, rfl, (if_pos (show zs_us 4 by decide)).symm⟩
  · subst h8
    subst h9
    refine lv_astore_n (lv' := [(2, .ref (ad 118)), (0, .ref (ad 100)), (1, .int 5)]) X.1 X.2.1 dX9_openNonce_5 rfl hl (by decide) rfl (fun ls hl => ?_)
    refine lv_aload_n X.1 X.2.1 dX9_openNonce_6 rfl (lv_at hl 0 rfl) ?_
    refine lv_ifnonnull (tgt := 14) X.1 X.2.1 dX9_openNonce_7 (by decide) ?_
    refine lv_aload_n X.1 X.2.1 dX9_openNonce_14 rfl (lv_at hl 0 rfl) ?_
    refine zr_get (r := 118) (v := .int (u 20 5)) X hW fs_X9_171_7 dX9_openNonce_15 (zc_s118 hS) rfl rfl (congrArg Value.int (hN0 _ _ _ _ rfl)) ?_
    exact zr_iret X hW dX9_openNonce_18 (Nat.le_refl _) (Nat.le_refl _) ⟨rfl, rfl, rfl, _, rfl, (if_pos (show zs_us 5 by decide)).symm⟩
  · subst h8
    have h_1 : ¬ zs_us a := h9
    refine lv_astore_nN (lv' := [(2, .null), (0, .ref (ad 100)), (1, .int a)]) X.1 X.2.1 dX9_openNonce_5 rfl hl (by decide) rfl (fun ls hl => ?_)
    refine lv_aload_nN X.1 X.2.1 dX9_openNonce_6 rfl (lv_at hl 0 rfl) ?_
    refine lv_ifnonnullN X.1 X.2.1 dX9_openNonce_7 ?_
    refine lv_iconst (v := (-1)) X.1 X.2.1 dX9_openNonce_10 (by decide) ?_
    refine lv_goto (tgt := 18) X.1 X.2.1 dX9_openNonce_11 (by decide) ?_
    exact zr_iret X hW dX9_openNonce_18 (Nat.le_refl _) (Nat.le_refl _) ⟨rfl, rfl, rfl, _, rfl, (if_neg h_1).symm⟩

set_option maxHeartbeats 4000000 in
set_option maxRecDepth 100000 in
theorem c_X9_heldTicket_0 (l : Launch) (Y : zw_Y) (N0 : Nat) (ad : Nat → Nat) (sh : Nat → Option zw_Sh) (g u : zm_T) (hS : zc_S sh) (hN : zc_N g u) (hT : ∀ i : Nat, i < 12 → -1 ≤ (u 23 i).toInt) (a : Int32) : zw_Met l Y N0 yX9_heldTicket cX9_heldTicket 4 (some .int) 2 41 0 0 ad sh g [.ref (ad 100), .int a, .int 0] (zp_I ad sh g (fun r => r = if zs_us a then u 23 (2 * zn a) else -1)) := by
  refine zw_meth (by decide) (Nat.le_of_ble_eq_true rfl) ?_
  intro p e s m below meth c ls X hnm hl hW
  have hl : lv_has ls 4 [(0, .ref (ad 100)), (1, .int a), (2, .int 0)] := hl
  have hN0 := hN
  refine lv_aload_n X.1 X.2.1 dX9_heldTicket_0 rfl (lv_at hl 0 rfl) ?_
  refine lv_iload_n X.1 X.2.1 dX9_heldTicket_1 rfl (lv_at hl 1 rfl) ?_
  refine zr_callV (As := [.int a]) (rest := []) X hW hl.1 md_X9_userAt ms_X9_112 dX9_heldTicket_2 (zc_s100 hS) rfl rfl rfl rfl (Nat.le_of_ble_eq_true rfl) ⟨Nat.le_of_ble_eq_true rfl, Nat.le_of_ble_eq_true rfl⟩ ⟨Nat.le_of_ble_eq_true rfl, Nat.le_of_ble_eq_true rfl⟩ (c_X9_userAt l Y N0 ad sh g hS a) (fun v9 ad9 sh9 g9 H locs hp hW => ?_)
  rcases hp with ⟨rfl, rfl, rfl, ⟨h9, h8⟩ | ⟨h9, h8⟩ | ⟨h9, h8⟩ | ⟨h9, h8⟩ | ⟨h9, h8⟩⟩
  · subst h8
    subst h9
    refine lv_astore_n (lv' := [(3, .ref (ad 115)), (0, .ref (ad 100)), (1, .int 2), (2, .int 0)]) X.1 X.2.1 dX9_heldTicket_5 rfl hl (by decide) rfl (fun ls hl => ?_)
    refine lv_aload_n X.1 X.2.1 dX9_heldTicket_6 rfl (lv_at hl 0 rfl) ?_
    refine lv_ifnull X.1 X.2.1 dX9_heldTicket_7 ?_
    refine lv_aload_n X.1 X.2.1 dX9_heldTicket_10 rfl (lv_at hl 0 rfl) ?_
    refine lv_iload_n X.1 X.2.1 dX9_heldTicket_11 rfl (lv_at hl 3 rfl) ?_
    refine zr_callV (As := [.int 0]) (rest := []) X hW hl.1 md_X8_hasCredential ms_X9_134 dX9_heldTicket_12 (zc_s115 hS) rfl rfl rfl rfl (Nat.le_of_ble_eq_true rfl) ⟨Nat.le_of_ble_eq_true rfl, Nat.le_of_ble_eq_true rfl⟩ ⟨Nat.le_of_ble_eq_true rfl, Nat.le_of_ble_eq_true rfl⟩ (c_X8_hasCredential_0_0 l Y N0 ad sh g u hS hN hT) (fun v9 ad9 sh9 g9 H locs hp hW => ?_)
    rcases hp with ⟨rfl, rfl, rfl, ⟨h_1, h9⟩ | ⟨h_1, h9⟩⟩
    · subst h9
      have h_1 : 0 ≤ (u 23 4).toInt := h_1
      refine zr_if_ne (a := 1) (tgt := 22) X dX9_heldTicket_15 (by decide) (by decide) (fun _ => ?_) (fun c9 => absurd c9 (by decide))
      refine lv_aload_n X.1 X.2.1 dX9_heldTicket_22 rfl (lv_at hl 0 rfl) ?_
      refine zr_get (r := 115) (v := .ref (ad 133)) X hW fs_X9_320_7 dX9_heldTicket_23 (zc_s115 hS) rfl rfl rfl ?_
      refine lv_iload_n X.1 X.2.1 dX9_heldTicket_26 rfl (lv_at hl 3 rfl) ?_
      refine zr_iald (r := 133) (v := u 23 4) X hW dX9_heldTicket_27 (zc_s133 hS) rfl rfl (zi_vp (by decide)) ((show g 133 (0 : Int32).toNatClampNeg = g 133 0 from rfl).trans (hN0 _ _ _ _ rfl)) ?_
      exact zr_iret X hW dX9_heldTicket_28 (Nat.le_refl _) (Nat.le_refl _) ⟨rfl, rfl, rfl, _, rfl, (if_pos (show zs_us 2 by decide)).symm⟩
    · subst h9
      have h_1 : ¬ (0 ≤ (u 23 4).toInt) := h_1
      refine zr_if_ne (a := 0) (tgt := 22) X dX9_heldTicket_15 (by decide) (by decide) (fun c9 => absurd c9 (by decide)) (fun _ => ?_)
      refine lv_iconst (v := (-1)) X.1 X.2.1 dX9_heldTicket_18 (by decide) ?_
      refine lv_goto (tgt := 28) X.1 X.2.1 dX9_heldTicket_19 (by decide) ?_
      exact zr_iret X hW dX9_heldTicket_28 (Nat.le_refl _) (Nat.le_refl _) ⟨rfl, rfl, rfl, _, rfl, (show (-1 : Int32) = u 23 4 from zi_ext (by have h9 := hT 4 (by omega); show (-1 : Int) = _; omega)).trans (if_pos (show zs_us 2 by decide)).symm⟩
  · subst h8
    subst h9
    refine lv_astore_n (lv' := [(3, .ref (ad 116)), (0, .ref (ad 100)), (1, .int 3), (2, .int 0)]) X.1 X.2.1 dX9_heldTicket_5 rfl hl (by decide) rfl (fun ls hl => ?_)
    refine lv_aload_n X.1 X.2.1 dX9_heldTicket_6 rfl (lv_at hl 0 rfl) ?_
    refine lv_ifnull X.1 X.2.1 dX9_heldTicket_7 ?_
    refine lv_aload_n X.1 X.2.1 dX9_heldTicket_10 rfl (lv_at hl 0 rfl) ?_
    refine lv_iload_n X.1 X.2.1 dX9_heldTicket_11 rfl (lv_at hl 3 rfl) ?_
    refine zr_callV (As := [.int 0]) (rest := []) X hW hl.1 md_X8_hasCredential ms_X9_134 dX9_heldTicket_12 (zc_s116 hS) rfl rfl rfl rfl (Nat.le_of_ble_eq_true rfl) ⟨Nat.le_of_ble_eq_true rfl, Nat.le_of_ble_eq_true rfl⟩ ⟨Nat.le_of_ble_eq_true rfl, Nat.le_of_ble_eq_true rfl⟩ (c_X8_hasCredential_1_0 l Y N0 ad sh g u hS hN hT) (fun v9 ad9 sh9 g9 H locs hp hW => ?_)
    rcases hp with ⟨rfl, rfl, rfl, ⟨h_2, h9⟩ | ⟨h_2, h9⟩⟩
    · subst h9
      have h_2 : 0 ≤ (u 23 6).toInt := h_2
      refine zr_if_ne (a := 1) (tgt := 22) X dX9_heldTicket_15 (by decide) (by decide) (fun _ => ?_) (fun c9 => absurd c9 (by decide))
      refine lv_aload_n X.1 X.2.1 dX9_heldTicket_22 rfl (lv_at hl 0 rfl) ?_
      refine zr_get (r := 116) (v := .ref (ad 135)) X hW fs_X9_320_7 dX9_heldTicket_23 (zc_s116 hS) rfl rfl rfl ?_
      refine lv_iload_n X.1 X.2.1 dX9_heldTicket_26 rfl (lv_at hl 3 rfl) ?_
      refine zr_iald (r := 135) (v := u 23 6) X hW dX9_heldTicket_27 (zc_s135 hS) rfl rfl (zi_vp (by decide)) ((show g 135 (0 : Int32).toNatClampNeg = g 135 0 from rfl).trans (hN0 _ _ _ _ rfl)) ?_
      exact zr_iret X hW dX9_heldTicket_28 (Nat.le_refl _) (Nat.le_refl _) ⟨rfl, rfl, rfl, _, rfl, (if_pos (show zs_us 3 by decide)).symm⟩
    · subst h9
      have h_2 : ¬ (0 ≤ (u 23 6).toInt) := h_2
      refine zr_if_ne (a := 0) (tgt := 22) X dX9_heldTicket_15 (by decide) (by decide) (fun c9 => absurd c9 (by decide)) (fun _ => ?_)
      refine lv_iconst (v := (-1)) X.1 X.2.1 dX9_heldTicket_18 (by decide) ?_
      refine lv_goto (tgt := 28) X.1 X.2.1 dX9_heldTicket_19 (by decide) ?_
      exact zr_iret X hW dX9_heldTicket_28 (Nat.le_refl _) (Nat.le_refl _) ⟨rfl, rfl, rfl, _, rfl, (show (-1 : Int32) = u 23 6 from zi_ext (by have h9 := hT 6 (by omega); show (-1 : Int) = _; omega)).trans (if_pos (show zs_us 3 by decide)).symm⟩
  · subst h8
    subst h9
    refine lv_astore_n (lv' := [(3, .ref (ad 117)), (0, .ref (ad 100)), (1, .int 4), (2, .int 0)]) X.1 X.2.1 dX9_heldTicket_5 rfl hl (by decide) rfl (fun ls hl => ?_)
    refine lv_aload_n X.1 X.2.1 dX9_heldTicket_6 rfl (lv_at hl 0 rfl) ?_
    refine lv_ifnull X.1 X.2.1 dX9_heldTicket_7 ?_
    refine lv_aload_n X.1 X.2.1 dX9_heldTicket_10 rfl (lv_at hl 0 rfl) ?_
    refine lv_iload_n X.1 X.2.1 dX9_heldTicket_11 rfl (lv_at hl 3 rfl) ?_
    refine zr_callV (As := [.int 0]) (rest := []) X hW hl.1 md_X8_hasCredential ms_X9_134 dX9_heldTicket_12 (zc_s117 hS) rfl rfl rfl rfl (Nat.le_of_ble_eq_true rfl) ⟨Nat.le_of_ble_eq_true rfl, Nat.le_of_ble_eq_true rfl⟩ ⟨Nat.le_of_ble_eq_true rfl, Nat.le_of_ble_eq_true rfl⟩ (c_X8_hasCredential_2_0 l Y N0 ad sh g u hS hN hT) (fun v9 ad9 sh9 g9 H locs hp hW => ?_)
    rcases hp with ⟨rfl, rfl, rfl, ⟨h_3, h9⟩ | ⟨h_3, h9⟩⟩
    · subst h9
      have h_3 : 0 ≤ (u 23 8).toInt := h_3
      refine zr_if_ne (a := 1) (tgt := 22) X dX9_heldTicket_15 (by decide) (by decide) (fun _ => ?_) (fun c9 => absurd c9 (by decide))
      refine lv_aload_n X.1 X.2.1 dX9_heldTicket_22 rfl (lv_at hl 0 rfl) ?_
      refine zr_get (r := 117) (v := .ref (ad 137)) X hW fs_X9_320_7 dX9_heldTicket_23 (zc_s117 hS) rfl rfl rfl ?_
      refine lv_iload_n X.1 X.2.1 dX9_heldTicket_26 rfl (lv_at hl 3 rfl) ?_
      refine zr_iald (r := 137) (v := u 23 8) X hW dX9_heldTicket_27 (zc_s137 hS) rfl rfl (zi_vp (by decide)) ((show g 137 (0 : Int32).toNatClampNeg = g 137 0 from rfl).trans (hN0 _ _ _ _ rfl)) ?_
      exact zr_iret X hW dX9_heldTicket_28 (Nat.le_refl _) (Nat.le_refl _) ⟨rfl, rfl, rfl, _, rfl, (if_pos (show zs_us 4 by decide)).symm⟩
    · subst h9
      have h_3 : ¬ (0 ≤ (u 23 8).toInt) := h_3
      refine zr_if_ne (a := 0) (tgt := 22) X dX9_heldTicket_15 (by decide) (by decide) (fun c9 => absurd c9 (by decide)) (fun _ => ?_)
      refine lv_iconst (v := (-1)) X.1 X.2.1 dX9_heldTicket_18 (by decide) ?_
      refine lv_goto (tgt := 28) X.1 X.2.1 dX9_heldTicket_19 (by decide) ?_
      exact zr_iret X hW dX9_heldTicket_28 (Nat.le_refl _) (Nat.le_refl _) ⟨rfl, rfl, rfl, _, rfl, (show (-1 : Int32) = u 23 8 from zi_ext (by have h9 := hT 8 (by omega); show (-1 : Int) = _; omega)).trans (if_pos (show zs_us 4 by decide)).symm⟩
  · subst h8
    subst h9
    refine lv_astore_n (lv' := [(3, .ref (ad 118)), (0, .ref (ad 100)), (1, .int 5), (2, .int 0)]) X.1 X.2.1 dX9_heldTicket_5 rfl hl (by decide) rfl (fun ls hl => ?_)
    refine lv_aload_n X.1 X.2.1 dX9_heldTicket_6 rfl (lv_at hl 0 rfl) ?_
    refine lv_ifnull X.1 X.2.1 dX9_heldTicket_7 ?_
    refine lv_aload_n X.1 X.2.1 dX9_heldTicket_10 rfl (lv_at hl 0 rfl) ?_
    refine lv_iload_n X.1 X.2.1 dX9_heldTicket_11 rfl (lv_at hl 3 rfl) ?_
    refine zr_callV (As := [.int 0]) (rest := []) X hW hl.1 md_X8_hasCredential ms_X9_134 dX9_heldTicket_12 (zc_s118 hS) rfl rfl rfl rfl (Nat.le_of_ble_eq_true rfl) ⟨Nat.le_of_ble_eq_true rfl, Nat.le_of_ble_eq_true rfl⟩ ⟨Nat.le_of_ble_eq_true rfl, Nat.le_of_ble_eq_true rfl⟩ (c_X8_hasCredential_3_0 l Y N0 ad sh g u hS hN hT) (fun v9 ad9 sh9 g9 H locs hp hW => ?_)
    rcases hp with ⟨rfl, rfl, rfl, ⟨h_4, h9⟩ | ⟨h_4, h9⟩⟩
    · subst h9
      have h_4 : 0 ≤ (u 23 10).toInt := h_4
      refine zr_if_ne (a := 1) (tgt := 22) X dX9_heldTicket_15 (by decide) (by decide) (fun _ => ?_) (fun c9 => absurd c9 (by decide))
      refine lv_aload_n X.1 X.2.1 dX9_heldTicket_22 rfl (lv_at hl 0 rfl) ?_
      refine zr_get (r := 118) (v := .ref (ad 139)) X hW fs_X9_320_7 dX9_heldTicket_23 (zc_s118 hS) rfl rfl rfl ?_
      refine lv_iload_n X.1 X.2.1 dX9_heldTicket_26 rfl (lv_at hl 3 rfl) ?_
      refine zr_iald (r := 139) (v := u 23 10) X hW dX9_heldTicket_27 (zc_s139 hS) rfl rfl (zi_vp (by decide)) ((show g 139 (0 : Int32).toNatClampNeg = g 139 0 from rfl).trans (hN0 _ _ _ _ rfl)) ?_
      exact zr_iret X hW dX9_heldTicket_28 (Nat.le_refl _) (Nat.le_refl _) ⟨rfl, rfl, rfl, _, rfl, (if_pos (show zs_us 5 by decide)).symm⟩
    · subst h9
      have h_4 : ¬ (0 ≤ (u 23 10).toInt) := h_4
      refine zr_if_ne (a := 0) (tgt := 22) X dX9_heldTicket_15 (by decide) (by decide) (fun c9 => absurd c9 (by decide)) (fun _ => ?_)
      refine lv_iconst (v := (-1)) X.1 X.2.1 dX9_heldTicket_18 (by decide) ?_
      refine lv_goto (tgt := 28) X.1 X.2.1 dX9_heldTicket_19 (by decide) ?_
      exact zr_iret X hW dX9_heldTicket_28 (Nat.le_refl _) (Nat.le_refl _) ⟨rfl, rfl, rfl, _, rfl, (show (-1 : Int32) = u 23 10 from zi_ext (by have h9 := hT 10 (by omega); show (-1 : Int) = _; omega)).trans (if_pos (show zs_us 5 by decide)).symm⟩
  · subst h8
    have h_5 : ¬ zs_us a := h9
    refine lv_astore_nN (lv' := [(3, .null), (0, .ref (ad 100)), (1, .int a), (2, .int 0)]) X.1 X.2.1 dX9_heldTicket_5 rfl hl (by decide) rfl (fun ls hl => ?_)
    refine lv_aload_nN X.1 X.2.1 dX9_heldTicket_6 rfl (lv_at hl 0 rfl) ?_
    refine lv_ifnullN (tgt := 18) X.1 X.2.1 dX9_heldTicket_7 (by decide) ?_
    refine lv_iconst (v := (-1)) X.1 X.2.1 dX9_heldTicket_18 (by decide) ?_
    refine lv_goto (tgt := 28) X.1 X.2.1 dX9_heldTicket_19 (by decide) ?_
    exact zr_iret X hW dX9_heldTicket_28 (Nat.le_refl _) (Nat.le_refl _) ⟨rfl, rfl, rfl, _, rfl, (if_neg h_5).symm⟩

set_option maxHeartbeats 4000000 in
set_option maxRecDepth 100000 in
theorem c_X9_heldTicket_1 (l : Launch) (Y : zw_Y) (N0 : Nat) (ad : Nat → Nat) (sh : Nat → Option zw_Sh) (g u : zm_T) (hS : zc_S sh) (hN : zc_N g u) (hT : ∀ i : Nat, i < 12 → -1 ≤ (u 23 i).toInt) (a : Int32) : zw_Met l Y N0 yX9_heldTicket cX9_heldTicket 4 (some .int) 2 41 0 0 ad sh g [.ref (ad 100), .int a, .int 1] (zp_I ad sh g (fun r => r = if zs_us a then u 23 (2 * zn a + 1) else -1)) := by
  refine zw_meth (by decide) (Nat.le_of_ble_eq_true rfl) ?_
  intro p e s m below meth c ls X hnm hl hW
  have hl : lv_has ls 4 [(0, .ref (ad 100)), (1, .int a), (2, .int 1)] := hl
  have hN0 := hN
  refine lv_aload_n X.1 X.2.1 dX9_heldTicket_0 rfl (lv_at hl 0 rfl) ?_
  refine lv_iload_n X.1 X.2.1 dX9_heldTicket_1 rfl (lv_at hl 1 rfl) ?_
  refine zr_callV (As := [.int a]) (rest := []) X hW hl.1 md_X9_userAt ms_X9_112 dX9_heldTicket_2 (zc_s100 hS) rfl rfl rfl rfl (Nat.le_of_ble_eq_true rfl) ⟨Nat.le_of_ble_eq_true rfl, Nat.le_of_ble_eq_true rfl⟩ ⟨Nat.le_of_ble_eq_true rfl, Nat.le_of_ble_eq_true rfl⟩ (c_X9_userAt l Y N0 ad sh g hS a) (fun v9 ad9 sh9 g9 H locs hp hW => ?_)
  rcases hp with ⟨rfl, rfl, rfl, ⟨h9, h8⟩ | ⟨h9, h8⟩ | ⟨h9, h8⟩ | ⟨h9, h8⟩ | ⟨h9, h8⟩⟩
  · subst h8
    subst h9
    refine lv_astore_n (lv' := [(3, .ref (ad 115)), (0, .ref (ad 100)), (1, .int 2), (2, .int 1)]) X.1 X.2.1 dX9_heldTicket_5 rfl hl (by decide) rfl (fun ls hl => ?_)
    refine lv_aload_n X.1 X.2.1 dX9_heldTicket_6 rfl (lv_at hl 0 rfl) ?_
    refine lv_ifnull X.1 X.2.1 dX9_heldTicket_7 ?_
    refine lv_aload_n X.1 X.2.1 dX9_heldTicket_10 rfl (lv_at hl 0 rfl) ?_
    refine lv_iload_n X.1 X.2.1 dX9_heldTicket_11 rfl (lv_at hl 3 rfl) ?_
    refine zr_callV (As := [.int 1]) (rest := []) X hW hl.1 md_X8_hasCredential ms_X9_134 dX9_heldTicket_12 (zc_s115 hS) rfl rfl rfl rfl (Nat.le_of_ble_eq_true rfl) ⟨Nat.le_of_ble_eq_true rfl, Nat.le_of_ble_eq_true rfl⟩ ⟨Nat.le_of_ble_eq_true rfl, Nat.le_of_ble_eq_true rfl⟩ (c_X8_hasCredential_0_1 l Y N0 ad sh g u hS hN hT) (fun v9 ad9 sh9 g9 H locs hp hW => ?_)
    rcases hp with ⟨rfl, rfl, rfl, ⟨h_1, h9⟩ | ⟨h_1, h9⟩⟩
    · subst h9
      have h_1 : 0 ≤ (u 23 5).toInt := h_1
      refine zr_if_ne (a := 1) (tgt := 22) X dX9_heldTicket_15 (by decide) (by decide) (fun _ => ?_) (fun c9 => absurd c9 (by decide))
      refine lv_aload_n X.1 X.2.1 dX9_heldTicket_22 rfl (lv_at hl 0 rfl) ?_
      refine zr_get (r := 115) (v := .ref (ad 133)) X hW fs_X9_320_7 dX9_heldTicket_23 (zc_s115 hS) rfl rfl rfl ?_
      refine lv_iload_n X.1 X.2.1 dX9_heldTicket_26 rfl (lv_at hl 3 rfl) ?_
      refine zr_iald (r := 133) (v := u 23 5) X hW dX9_heldTicket_27 (zc_s133 hS) rfl rfl (zi_vp (by decide)) ((show g 133 (1 : Int32).toNatClampNeg = g 133 1 from rfl).trans (hN0 _ _ _ _ rfl)) ?_
      exact zr_iret X hW dX9_heldTicket_28 (Nat.le_refl _) (Nat.le_refl _) ⟨rfl, rfl, rfl, _, rfl, (if_pos (show zs_us 2 by decide)).symm⟩
    · subst h9
      have h_1 : ¬ (0 ≤ (u 23 5).toInt) := h_1
      refine zr_if_ne (a := 0) (tgt := 22) X dX9_heldTicket_15 (by decide) (by decide) (fun c9 => absurd c9 (by decide)) (fun _ => ?_)
      refine lv_iconst (v := (-1)) X.1 X.2.1 dX9_heldTicket_18 (by decide) ?_
      refine lv_goto (tgt := 28) X.1 X.2.1 dX9_heldTicket_19 (by decide) ?_
      exact zr_iret X hW dX9_heldTicket_28 (Nat.le_refl _) (Nat.le_refl _) ⟨rfl, rfl, rfl, _, rfl, (show (-1 : Int32) = u 23 5 from zi_ext (by have h9 := hT 5 (by omega); show (-1 : Int) = _; omega)).trans (if_pos (show zs_us 2 by decide)).symm⟩
  · subst h8
    subst h9
    refine lv_astore_n (lv' := [(3, .ref (ad 116)), (0, .ref (ad 100)), (1, .int 3), (2, .int 1)]) X.1 X.2.1 dX9_heldTicket_5 rfl hl (by decide) rfl (fun ls hl => ?_)
    refine lv_aload_n X.1 X.2.1 dX9_heldTicket_6 rfl (lv_at hl 0 rfl) ?_
    refine lv_ifnull X.1 X.2.1 dX9_heldTicket_7 ?_
    refine lv_aload_n X.1 X.2.1 dX9_heldTicket_10 rfl (lv_at hl 0 rfl) ?_
    refine lv_iload_n X.1 X.2.1 dX9_heldTicket_11 rfl (lv_at hl 3 rfl) ?_
    refine zr_callV (As := [.int 1]) (rest := []) X hW hl.1 md_X8_hasCredential ms_X9_134 dX9_heldTicket_12 (zc_s116 hS) rfl rfl rfl rfl (Nat.le_of_ble_eq_true rfl) ⟨Nat.le_of_ble_eq_true rfl, Nat.le_of_ble_eq_true rfl⟩ ⟨Nat.le_of_ble_eq_true rfl, Nat.le_of_ble_eq_true rfl⟩ (c_X8_hasCredential_1_1 l Y N0 ad sh g u hS hN hT) (fun v9 ad9 sh9 g9 H locs hp hW => ?_)
    rcases hp with ⟨rfl, rfl, rfl, ⟨h_2, h9⟩ | ⟨h_2, h9⟩⟩
    · subst h9
      have h_2 : 0 ≤ (u 23 7).toInt := h_2
      refine zr_if_ne (a := 1) (tgt := 22) X dX9_heldTicket_15 (by decide) (by decide) (fun _ => ?_) (fun c9 => absurd c9 (by decide))
      refine lv_aload_n X.1 X.2.1 dX9_heldTicket_22 rfl (lv_at hl 0 rfl) ?_
      refine zr_get (r := 116) (v := .ref (ad 135)) X hW fs_X9_320_7 dX9_heldTicket_23 (zc_s116 hS) rfl rfl rfl ?_
      refine lv_iload_n X.1 X.2.1 dX9_heldTicket_26 rfl (lv_at hl 3 rfl) ?_
      refine zr_iald (r := 135) (v := u 23 7) X hW dX9_heldTicket_27 (zc_s135 hS) rfl rfl (zi_vp (by decide)) ((show g 135 (1 : Int32).toNatClampNeg = g 135 1 from rfl).trans (hN0 _ _ _ _ rfl)) ?_
      exact zr_iret X hW dX9_heldTicket_28 (Nat.le_refl _) (Nat.le_refl _) ⟨rfl, rfl, rfl, _, rfl, (if_pos (show zs_us 3 by decide)).symm⟩
    · subst h9
      have h_2 : ¬ (0 ≤ (u 23 7).toInt) := h_2
      refine zr_if_ne (a := 0) (tgt := 22) X dX9_heldTicket_15 (by decide) (by decide) (fun c9 => absurd c9 (by decide)) (fun _ => ?_)
      refine lv_iconst (v := (-1)) X.1 X.2.1 dX9_heldTicket_18 (by decide) ?_
      refine lv_goto (tgt := 28) X.1 X.2.1 dX9_heldTicket_19 (by decide) ?_
      exact zr_iret X hW dX9_heldTicket_28 (Nat.le_refl _) (Nat.le_refl _) ⟨rfl, rfl, rfl, _, rfl, (show (-1 : Int32) = u 23 7 from zi_ext (by have h9 := hT 7 (by omega); show (-1 : Int) = _; omega)).trans (if_pos (show zs_us 3 by decide)).symm⟩
  · subst h8
    subst h9
    refine lv_astore_n (lv' := [(3, .ref (ad 117)), (0, .ref (ad 100)), (1, .int 4), (2, .int 1)]) X.1 X.2.1 dX9_heldTicket_5 rfl hl (by decide) rfl (fun ls hl => ?_)
    refine lv_aload_n X.1 X.2.1 dX9_heldTicket_6 rfl (lv_at hl 0 rfl) ?_
    refine lv_ifnull X.1 X.2.1 dX9_heldTicket_7 ?_
    refine lv_aload_n X.1 X.2.1 dX9_heldTicket_10 rfl (lv_at hl 0 rfl) ?_
    refine lv_iload_n X.1 X.2.1 dX9_heldTicket_11 rfl (lv_at hl 3 rfl) ?_
    refine zr_callV (As := [.int 1]) (rest := []) X hW hl.1 md_X8_hasCredential ms_X9_134 dX9_heldTicket_12 (zc_s117 hS) rfl rfl rfl rfl (Nat.le_of_ble_eq_true rfl) ⟨Nat.le_of_ble_eq_true rfl, Nat.le_of_ble_eq_true rfl⟩ ⟨Nat.le_of_ble_eq_true rfl, Nat.le_of_ble_eq_true rfl⟩ (c_X8_hasCredential_2_1 l Y N0 ad sh g u hS hN hT) (fun v9 ad9 sh9 g9 H locs hp hW => ?_)
    rcases hp with ⟨rfl, rfl, rfl, ⟨h_3, h9⟩ | ⟨h_3, h9⟩⟩
    · subst h9
      have h_3 : 0 ≤ (u 23 9).toInt := h_3
      refine zr_if_ne (a := 1) (tgt := 22) X dX9_heldTicket_15 (by decide) (by decide) (fun _ => ?_) (fun c9 => absurd c9 (by decide))
      refine lv_aload_n X.1 X.2.1 dX9_heldTicket_22 rfl (lv_at hl 0 rfl) ?_
      refine zr_get (r := 117) (v := .ref (ad 137)) X hW fs_X9_320_7 dX9_heldTicket_23 (zc_s117 hS) rfl rfl rfl ?_
      refine lv_iload_n X.1 X.2.1 dX9_heldTicket_26 rfl (lv_at hl 3 rfl) ?_
      refine zr_iald (r := 137) (v := u 23 9) X hW dX9_heldTicket_27 (zc_s137 hS) rfl rfl (zi_vp (by decide)) ((show g 137 (1 : Int32).toNatClampNeg = g 137 1 from rfl).trans (hN0 _ _ _ _ rfl)) ?_
      exact zr_iret X hW dX9_heldTicket_28 (Nat.le_refl _) (Nat.le_refl _) ⟨rfl, rfl, rfl, _, rfl, (if_pos (show zs_us 4 by decide)).symm⟩
    · subst h9
      have h_3 : ¬ (0 ≤ (u 23 9).toInt) := h_3
      refine zr_if_ne (a := 0) (tgt := 22) X dX9_heldTicket_15 (by decide) (by decide) (fun c9 => absurd c9 (by decide)) (fun _ => ?_)
      refine lv_iconst (v := (-1)) X.1 X.2.1 dX9_heldTicket_18 (by decide) ?_
      refine lv_goto (tgt := 28) X.1 X.2.1 dX9_heldTicket_19 (by decide) ?_
      exact zr_iret X hW dX9_heldTicket_28 (Nat.le_refl _) (Nat.le_refl _) ⟨rfl, rfl, rfl, _, rfl, (show (-1 : Int32) = u 23 9 from zi_ext (by have h9 := hT 9 (by omega); show (-1 : Int) = _; omega)).trans (if_pos (show zs_us 4 by decide)).symm⟩
  · subst h8
    subst h9
    refine lv_astore_n (lv' := [(3, .ref (ad 118)), (0, .ref (ad 100)), (1, .int 5), (2, .int 1)]) X.1 X.2.1 dX9_heldTicket_5 rfl hl (by decide) rfl (fun ls hl => ?_)
    refine lv_aload_n X.1 X.2.1 dX9_heldTicket_6 rfl (lv_at hl 0 rfl) ?_
    refine lv_ifnull X.1 X.2.1 dX9_heldTicket_7 ?_
    refine lv_aload_n X.1 X.2.1 dX9_heldTicket_10 rfl (lv_at hl 0 rfl) ?_
    refine lv_iload_n X.1 X.2.1 dX9_heldTicket_11 rfl (lv_at hl 3 rfl) ?_
    refine zr_callV (As := [.int 1]) (rest := []) X hW hl.1 md_X8_hasCredential ms_X9_134 dX9_heldTicket_12 (zc_s118 hS) rfl rfl rfl rfl (Nat.le_of_ble_eq_true rfl) ⟨Nat.le_of_ble_eq_true rfl, Nat.le_of_ble_eq_true rfl⟩ ⟨Nat.le_of_ble_eq_true rfl, Nat.le_of_ble_eq_true rfl⟩ (c_X8_hasCredential_3_1 l Y N0 ad sh g u hS hN hT) (fun v9 ad9 sh9 g9 H locs hp hW => ?_)
    rcases hp with ⟨rfl, rfl, rfl, ⟨h_4, h9⟩ | ⟨h_4, h9⟩⟩
    · subst h9
      have h_4 : 0 ≤ (u 23 11).toInt := h_4
      refine zr_if_ne (a := 1) (tgt := 22) X dX9_heldTicket_15 (by decide) (by decide) (fun _ => ?_) (fun c9 => absurd c9 (by decide))
      refine lv_aload_n X.1 X.2.1 dX9_heldTicket_22 rfl (lv_at hl 0 rfl) ?_
      refine zr_get (r := 118) (v := .ref (ad 139)) X hW fs_X9_320_7 dX9_heldTicket_23 (zc_s118 hS) rfl rfl rfl ?_
      refine lv_iload_n X.1 X.2.1 dX9_heldTicket_26 rfl (lv_at hl 3 rfl) ?_
      refine zr_iald (r := 139) (v := u 23 11) X hW dX9_heldTicket_27 (zc_s139 hS) rfl rfl (zi_vp (by decide)) ((show g 139 (1 : Int32).toNatClampNeg = g 139 1 from rfl).trans (hN0 _ _ _ _ rfl)) ?_
      exact zr_iret X hW dX9_heldTicket_28 (Nat.le_refl _) (Nat.le_refl _) ⟨rfl, rfl, rfl, _, rfl, (if_pos (show zs_us 5 by decide)).symm⟩
    · subst h9
      have h_4 : ¬ (0 ≤ (u 23 11).toInt) := h_4
      refine zr_if_ne (a := 0) (tgt := 22) X dX9_heldTicket_15 (by decide) (by decide) (fun c9 => absurd c9 (by decide)) (fun _ => ?_)
      refine lv_iconst (v := (-1)) X.1 X.2.1 dX9_heldTicket_18 (by decide) ?_
      refine lv_goto (tgt := 28) X.1 X.2.1 dX9_heldTicket_19 (by decide) ?_
      exact zr_iret X hW dX9_heldTicket_28 (Nat.le_refl _) (Nat.le_refl _) ⟨rfl, rfl, rfl, _, rfl, (show (-1 : Int32) = u 23 11 from zi_ext (by have h9 := hT 11 (by omega); show (-1 : Int) = _; omega)).trans (if_pos (show zs_us 5 by decide)).symm⟩
  · subst h8
    have h_5 : ¬ zs_us a := h9
    refine lv_astore_nN (lv' := [(3, .null), (0, .ref (ad 100)), (1, .int a), (2, .int 1)]) X.1 X.2.1 dX9_heldTicket_5 rfl hl (by decide) rfl (fun ls hl => ?_)
    refine lv_aload_nN X.1 X.2.1 dX9_heldTicket_6 rfl (lv_at hl 0 rfl) ?_
    refine lv_ifnullN (tgt := 18) X.1 X.2.1 dX9_heldTicket_7 (by decide) ?_
    refine lv_iconst (v := (-1)) X.1 X.2.1 dX9_heldTicket_18 (by decide) ?_
    refine lv_goto (tgt := 28) X.1 X.2.1 dX9_heldTicket_19 (by decide) ?_
    exact zr_iret X hW dX9_heldTicket_28 (Nat.le_refl _) (Nat.le_refl _) ⟨rfl, rfl, rfl, _, rfl, (if_neg h_5).symm⟩
