theorem zm_wr {g : zm_T} {r r0 k : Nat} {x : Int32} (h : r ≠ r0) : zm_w g r0 k x r = g r := va_up_ne _ _ h
/-- the books' cells alone have changed -/
def zc_bf (g g' : zm_T) : Prop := ∀ r : Nat, ¬ ((109 ≤ r ∧ r ≤ 114) ∨ (121 ≤ r ∧ r ≤ 132)) → g' r = g r

set_option maxHeartbeats 4000000 in
set_option maxRecDepth 100000 in
theorem c_X0_strike (l : Launch) (Y : zw_Y) (N0 : Nat) (ad : Nat → Nat) (sh : Nat → Option zw_Sh) (g : zm_T) (hS : zc_S sh) (a : Int32) (ha : zi_in a 0 5) : zw_Met l Y N0 yX0_strike cX0_strike 2 none 0 0 0 0 ad sh g [.ref (ad 103), .int a] (zp_G ad sh (fun v g' => v = none ∧ g' = zm_w g 109 (zn a) (-1))) := by
  refine zw_meth (by decide) (Nat.le_of_ble_eq_true rfl) ?_
  intro p e s m below meth c ls X hnm hl hW
  have hl : lv_has ls 2 [(0, .ref (ad 103)), (1, .int a)] := hl
  refine lv_aload_n X.1 X.2.1 dX0_strike_0 rfl (lv_at hl 0 rfl) ?_
  refine zr_get (r := 103) (v := .ref (ad 109)) X hW fs_X0_9_0 dX0_strike_1 (zc_s103 hS) rfl rfl rfl ?_
  refine lv_iload_n X.1 X.2.1 dX0_strike_4 rfl (lv_at hl 1 rfl) ?_
  refine lv_iconst (v := (-1)) X.1 X.2.1 dX0_strike_5 (by decide) ?_
  refine zr_iast (r := 109) X hW dX0_strike_6 (zc_s109 hS) rfl rfl (zi_vp (by omega)) (fun H locs hW => ?_)
  obtain ⟨g_1, hg_1⟩ : ∃ z : zm_T, z = zm_w g 109 (zn a) ((-1)) := ⟨_, rfl⟩
  have hW : zw_St Y N0 ad sh g_1 s H locs := by rw [hg_1]; exact hW
  exact zr_vret X hW dX0_strike_7 (Nat.le_refl _) (Nat.le_refl _) ⟨rfl, rfl, rfl, hg_1⟩

set_option maxHeartbeats 4000000 in
set_option maxRecDepth 100000 in
theorem c_X0_enter (l : Launch) (Y : zw_Y) (N0 : Nat) (ad : Nat → Nat) (sh : Nat → Option zw_Sh) (g u : zm_T) (hS : zc_S sh) (hN : zc_N g u) (hB : ∀ i : Nat, i < 12 → -1 ≤ (u 5 i).toInt) (a key : Int32) (ha : zi_in a 0 5) : zw_Met l Y N0 yX0_enter cX0_enter 4 none 2 41 0 0 ad sh g [.ref (ad 103), .int a, .int key] (zp_G ad sh (fun v g' => v = none ∧ zc_N g' (zm_w (if (u 5 (zn a)).toInt < 0 then zs_clr (zm_w u 6 (zn a) 20) (zn a) else u) 5 (zn a) key) ∧ zc_bf g g')) := by
  refine zw_meth (by decide) (Nat.le_of_ble_eq_true rfl) ?_
  intro p e s m below meth c ls X hnm hl hW
  have hl : lv_has ls 4 [(0, .ref (ad 103)), (1, .int a), (2, .int key)] := hl
  have hN0 := hN
  obtain ha | ha | ha | ha | ha | ha : a.toInt = 0 ∨ a.toInt = 1 ∨ a.toInt = 2 ∨ a.toInt = 3 ∨ a.toInt = 4 ∨ a.toInt = 5 := by omega
  · have ha : a = 0 := zi_ext ha
    subst ha
    refine lv_aload_n X.1 X.2.1 dX0_enter_0 rfl (lv_at hl 0 rfl) ?_
    refine lv_iload_n X.1 X.2.1 dX0_enter_1 rfl (lv_at hl 1 rfl) ?_
    refine zr_callV (As := [.int 0]) (rest := []) X hW hl.1 md_X0_holds ms_X0_27 dX0_enter_2 (zc_s103 hS) rfl rfl rfl rfl (Nat.le_of_ble_eq_true rfl) ⟨Nat.le_of_ble_eq_true rfl, Nat.le_of_ble_eq_true rfl⟩ ⟨Nat.le_of_ble_eq_true rfl, Nat.le_of_ble_eq_true rfl⟩ (c_X0_holds_b l Y N0 ad sh g u hS hN hB 0) (fun v9 ad9 sh9 g9 H locs hp hW => ?_)
    rcases hp with ⟨rfl, rfl, rfl, ⟨h_1, h9⟩ | ⟨h_1, h9⟩⟩
    · subst h9
      have h_1 : zs_bk u 0 := h_1
      refine zr_if_ne (a := 1) (tgt := 38) X dX0_enter_5 (by decide) (by decide) (fun _ => ?_) (fun c9 => absurd c9 (by decide))
      refine lv_aload_n X.1 X.2.1 dX0_enter_38 rfl (lv_at hl 0 rfl) ?_
      refine zr_get (r := 103) (v := .ref (ad 109)) X hW fs_X0_9_0 dX0_enter_39 (zc_s103 hS) rfl rfl rfl ?_
      refine lv_iload_n X.1 X.2.1 dX0_enter_42 rfl (lv_at hl 1 rfl) ?_
      refine lv_iload_n X.1 X.2.1 dX0_enter_43 rfl (lv_at hl 2 rfl) ?_
      refine zr_iast (r := 109) X hW dX0_enter_44 (zc_s109 hS) rfl rfl (zi_vp (by decide)) (fun H locs hW => ?_)
      obtain ⟨g_2, hg_2⟩ : ∃ z : zm_T, z = zm_w g 109 0 key := ⟨_, rfl⟩
      have hW : zw_St Y N0 ad sh g_2 s H locs := by rw [hg_2]; exact hW
      obtain ⟨u_3, hu_3⟩ : ∃ z : zm_T, z = zm_w u 5 0 key := ⟨_, rfl⟩
      have hN : zc_N g_2 u_3 := by rw [hg_2, hu_3]; exact zc_Nw hN rfl _
      have e9 : u_3 = zm_w (if (u 5 (zn 0)).toInt < 0 then zs_clr (zm_w u 6 (zn 0) 20) (zn 0) else u) 5 (zn 0) key := by rw [hu_3]; rw [if_neg (show ¬ (u 5 (zn 0)).toInt < 0 from (by have h7 : 0 ≤ (u 5 0).toInt := h_1.2; show ¬ (u 5 0).toInt < 0; omega))]; rfl
      exact zr_vret X hW dX0_enter_45 (Nat.le_refl _) (Nat.le_refl _) ⟨rfl, rfl, rfl, by rw [← e9]; exact hN, fun r hr => by rw [hg_2, zm_wr (by omega)]⟩
    · subst h9
      have h_1 : ¬ (zs_bk u 0) := h_1
      refine zr_if_ne (a := 0) (tgt := 38) X dX0_enter_5 (by decide) (by decide) (fun c9 => absurd c9 (by decide)) (fun _ => ?_)
      refine lv_aload_n X.1 X.2.1 dX0_enter_8 rfl (lv_at hl 0 rfl) ?_
      refine zr_get (r := 103) (v := .ref (ad 110)) X hW fs_X0_15_0 dX0_enter_9 (zc_s103 hS) rfl rfl rfl ?_
      refine lv_iload_n X.1 X.2.1 dX0_enter_12 rfl (lv_at hl 1 rfl) ?_
      refine lv_bipush (v := 20) X.1 X.2.1 dX0_enter_13 (by decide) ?_
      refine zr_iast (r := 110) X hW dX0_enter_15 (zc_s110 hS) rfl rfl (zi_vp (by decide)) (fun H locs hW => ?_)
      obtain ⟨g_4, hg_4⟩ : ∃ z : zm_T, z = zm_w g 110 0 20 := ⟨_, rfl⟩
      have hW : zw_St Y N0 ad sh g_4 s H locs := by rw [hg_4]; exact hW
      obtain ⟨u_5, hu_5⟩ : ∃ z : zm_T, z = zm_w u 6 0 20 := ⟨_, rfl⟩
      have hN : zc_N g_4 u_5 := by rw [hg_4, hu_5]; exact zc_Nw hN rfl _
      refine lv_iconst (v := 0) X.1 X.2.1 dX0_enter_16 (by decide) ?_
      refine lv_istore_n (lv' := [(3, .int 0), (0, .ref (ad 103)), (1, .int 0), (2, .int key)]) X.1 X.2.1 dX0_enter_17 rfl hl (by decide) rfl (fun ls hl => ?_)
      refine lv_iload_n X.1 X.2.1 dX0_enter_18 rfl (lv_at hl 0 rfl) ?_
      refine lv_iconst (v := 3) X.1 X.2.1 dX0_enter_19 (by decide) ?_
      refine zr_icmp_ge (a := 0) (b := 3) (tgt := 38) X dX0_enter_20 (by decide) (by decide) (by decide) (fun c9 => absurd c9 (by decide)) (fun _ => ?_)
      refine lv_aload_n X.1 X.2.1 dX0_enter_23 rfl (lv_at hl 1 rfl) ?_
      refine zr_get (r := 103) (v := .ref (ad 111)) X hW fs_X0_20_0 dX0_enter_24 (zc_s103 hS) rfl rfl rfl ?_
      refine lv_iload_n X.1 X.2.1 dX0_enter_27 rfl (lv_at hl 2 rfl) ?_
      refine zr_aald (r := 111) (v := .ref (ad 121)) X hW dX0_enter_28 (zc_s111 hS) rfl rfl rfl (zi_vp (by decide)) rfl ?_
      refine lv_iload_n X.1 X.2.1 dX0_enter_29 rfl (lv_at hl 0 rfl) ?_
      refine lv_iconst (v := 0) X.1 X.2.1 dX0_enter_30 (by decide) ?_
      refine zr_iast (r := 121) X hW dX0_enter_31 (zc_s121 hS) rfl rfl (zi_vp (by decide)) (fun H locs hW => ?_)
      obtain ⟨g_6, hg_6⟩ : ∃ z : zm_T, z = zm_w g_4 121 0 0 := ⟨_, rfl⟩
      have hW : zw_St Y N0 ad sh g_6 s H locs := by rw [hg_6]; exact hW
      obtain ⟨u_7, hu_7⟩ : ∃ z : zm_T, z = zm_w u_5 7 0 0 := ⟨_, rfl⟩
      have hN : zc_N g_6 u_7 := by rw [hg_6, hu_7]; exact zc_Nw hN rfl _
      refine lv_iinc (v := 1) (lv' := [(3, .int 1), (0, .ref (ad 103)), (1, .int 0), (2, .int key)]) X.1 X.2.1 dX0_enter_32 hl (k := 0) rfl (by decide) (by decide) rfl (fun ls hl => ?_)
      refine lv_goto (tgt := 18) X.1 X.2.1 dX0_enter_35 (by decide) ?_
      refine lv_iload_n X.1 X.2.1 dX0_enter_18 rfl (lv_at hl 0 rfl) ?_
      refine lv_iconst (v := 3) X.1 X.2.1 dX0_enter_19 (by decide) ?_
      refine zr_icmp_ge (a := 1) (b := 3) (tgt := 38) X dX0_enter_20 (by decide) (by decide) (by decide) (fun c9 => absurd c9 (by decide)) (fun _ => ?_)
      refine lv_aload_n X.1 X.2.1 dX0_enter_23 rfl (lv_at hl 1 rfl) ?_
      refine zr_get (r := 103) (v := .ref (ad 111)) X hW fs_X0_20_0 dX0_enter_24 (zc_s103 hS) rfl rfl rfl ?_
      refine lv_iload_n X.1 X.2.1 dX0_enter_27 rfl (lv_at hl 2 rfl) ?_
      refine zr_aald (r := 111) (v := .ref (ad 121)) X hW dX0_enter_28 (zc_s111 hS) rfl rfl rfl (zi_vp (by decide)) rfl ?_
      refine lv_iload_n X.1 X.2.1 dX0_enter_29 rfl (lv_at hl 0 rfl) ?_
      refine lv_iconst (v := 0) X.1 X.2.1 dX0_enter_30 (by decide) ?_
      refine zr_iast (r := 121) X hW dX0_enter_31 (zc_s121 hS) rfl rfl (zi_vp (by decide)) (fun H locs hW => ?_)
      obtain ⟨g_8, hg_8⟩ : ∃ z : zm_T, z = zm_w g_6 121 1 0 := ⟨_, rfl⟩
      have hW : zw_St Y N0 ad sh g_8 s H locs := by rw [hg_8]; exact hW
      obtain ⟨u_9, hu_9⟩ : ∃ z : zm_T, z = zm_w u_7 7 1 0 := ⟨_, rfl⟩
      have hN : zc_N g_8 u_9 := by rw [hg_8, hu_9]; exact zc_Nw hN rfl _
      refine lv_iinc (v := 2) (lv' := [(3, .int 2), (0, .ref (ad 103)), (1, .int 0), (2, .int key)]) X.1 X.2.1 dX0_enter_32 hl (k := 0) rfl (by decide) (by decide) rfl (fun ls hl => ?_)
      refine lv_goto (tgt := 18) X.1 X.2.1 dX0_enter_35 (by decide) ?_
      refine lv_iload_n X.1 X.2.1 dX0_enter_18 rfl (lv_at hl 0 rfl) ?_
      refine lv_iconst (v := 3) X.1 X.2.1 dX0_enter_19 (by decide) ?_
      refine zr_icmp_ge (a := 2) (b := 3) (tgt := 38) X dX0_enter_20 (by decide) (by decide) (by decide) (fun c9 => absurd c9 (by decide)) (fun _ => ?_)
      refine lv_aload_n X.1 X.2.1 dX0_enter_23 rfl (lv_at hl 1 rfl) ?_
      refine zr_get (r := 103) (v := .ref (ad 111)) X hW fs_X0_20_0 dX0_enter_24 (zc_s103 hS) rfl rfl rfl ?_
      refine lv_iload_n X.1 X.2.1 dX0_enter_27 rfl (lv_at hl 2 rfl) ?_
      refine zr_aald (r := 111) (v := .ref (ad 121)) X hW dX0_enter_28 (zc_s111 hS) rfl rfl rfl (zi_vp (by decide)) rfl ?_
      refine lv_iload_n X.1 X.2.1 dX0_enter_29 rfl (lv_at hl 0 rfl) ?_
      refine lv_iconst (v := 0) X.1 X.2.1 dX0_enter_30 (by decide) ?_
      refine zr_iast (r := 121) X hW dX0_enter_31 (zc_s121 hS) rfl rfl (zi_vp (by decide)) (fun H locs hW => ?_)
      obtain ⟨g_10, hg_10⟩ : ∃ z : zm_T, z = zm_w g_8 121 2 0 := ⟨_, rfl⟩
      have hW : zw_St Y N0 ad sh g_10 s H locs := by rw [hg_10]; exact hW
      obtain ⟨u_11, hu_11⟩ : ∃ z : zm_T, z = zm_w u_9 7 2 0 := ⟨_, rfl⟩
      have hN : zc_N g_10 u_11 := by rw [hg_10, hu_11]; exact zc_Nw hN rfl _
      refine lv_iinc (v := 3) (lv' := [(3, .int 3), (0, .ref (ad 103)), (1, .int 0), (2, .int key)]) X.1 X.2.1 dX0_enter_32 hl (k := 0) rfl (by decide) (by decide) rfl (fun ls hl => ?_)
      refine lv_goto (tgt := 18) X.1 X.2.1 dX0_enter_35 (by decide) ?_
      refine lv_iload_n X.1 X.2.1 dX0_enter_18 rfl (lv_at hl 0 rfl) ?_
      refine lv_iconst (v := 3) X.1 X.2.1 dX0_enter_19 (by decide) ?_
      refine zr_icmp_ge (a := 3) (b := 3) (tgt := 38) X dX0_enter_20 (by decide) (by decide) (by decide) (fun _ => ?_) (fun c9 => absurd c9 (by decide))
      refine lv_aload_n X.1 X.2.1 dX0_enter_38 rfl (lv_at hl 1 rfl) ?_
      refine zr_get (r := 103) (v := .ref (ad 109)) X hW fs_X0_9_0 dX0_enter_39 (zc_s103 hS) rfl rfl rfl ?_
      refine lv_iload_n X.1 X.2.1 dX0_enter_42 rfl (lv_at hl 2 rfl) ?_
      refine lv_iload_n X.1 X.2.1 dX0_enter_43 rfl (lv_at hl 3 rfl) ?_
      refine zr_iast (r := 109) X hW dX0_enter_44 (zc_s109 hS) rfl rfl (zi_vp (by decide)) (fun H locs hW => ?_)
      obtain ⟨g_12, hg_12⟩ : ∃ z : zm_T, z = zm_w g_10 109 0 key := ⟨_, rfl⟩
      have hW : zw_St Y N0 ad sh g_12 s H locs := by rw [hg_12]; exact hW
      obtain ⟨u_13, hu_13⟩ : ∃ z : zm_T, z = zm_w u_11 5 0 key := ⟨_, rfl⟩
      have hN : zc_N g_12 u_13 := by rw [hg_12, hu_13]; exact zc_Nw hN rfl _
      have e9 : u_13 = zm_w (if (u 5 (zn 0)).toInt < 0 then zs_clr (zm_w u 6 (zn 0) 20) (zn 0) else u) 5 (zn 0) key := by rw [hu_13, hu_11, hu_9, hu_7, hu_5]; rw [if_pos (show (u 5 (zn 0)).toInt < 0 from (by have h8 := hB 0 (by omega); have h7 : ¬ ((0 : Int) ≤ (0 : Int32).toInt ∧ (0 : Int32).toInt ≤ 5) ∨ ¬ 0 ≤ (u 5 0).toInt := Classical.not_and_iff_not_or_not.mp h_1; have h6 : (0 : Int32).toInt = 0 := rfl; show (u 5 0).toInt < 0; omega))]; rw [← zs_clr3]; rfl
      exact zr_vret X hW dX0_enter_45 (Nat.le_refl _) (Nat.le_refl _) ⟨rfl, rfl, rfl, by rw [← e9]; exact hN, fun r hr => by rw [hg_12, hg_10, hg_8, hg_6, hg_4, zm_wr (by omega), zm_wr (by omega), zm_wr (by omega), zm_wr (by omega), zm_wr (by omega)]⟩
  · have ha : a = 1 := zi_ext ha
    subst ha
    refine lv_aload_n X.1 X.2.1 dX0_enter_0 rfl (lv_at hl 0 rfl) ?_
    refine lv_iload_n X.1 X.2.1 dX0_enter_1 rfl (lv_at hl 1 rfl) ?_
    refine zr_callV (As := [.int 1]) (rest := []) X hW hl.1 md_X0_holds ms_X0_27 dX0_enter_2 (zc_s103 hS) rfl rfl rfl rfl (Nat.le_of_ble_eq_true rfl) ⟨Nat.le_of_ble_eq_true rfl, Nat.le_of_ble_eq_true rfl⟩ ⟨Nat.le_of_ble_eq_true rfl, Nat.le_of_ble_eq_true rfl⟩ (c_X0_holds_b l Y N0 ad sh g u hS hN hB 1) (fun v9 ad9 sh9 g9 H locs hp hW => ?_)
    rcases hp with ⟨rfl, rfl, rfl, ⟨h_14, h9⟩ | ⟨h_14, h9⟩⟩
    · subst h9
      have h_14 : zs_bk u 1 := h_14
      refine zr_if_ne (a := 1) (tgt := 38) X dX0_enter_5 (by decide) (by decide) (fun _ => ?_) (fun c9 => absurd c9 (by decide))
      refine lv_aload_n X.1 X.2.1 dX0_enter_38 rfl (lv_at hl 0 rfl) ?_
      refine zr_get (r := 103) (v := .ref (ad 109)) X hW fs_X0_9_0 dX0_enter_39 (zc_s103 hS) rfl rfl rfl ?_
      refine lv_iload_n X.1 X.2.1 dX0_enter_42 rfl (lv_at hl 1 rfl) ?_
      refine lv_iload_n X.1 X.2.1 dX0_enter_43 rfl (lv_at hl 2 rfl) ?_
      refine zr_iast (r := 109) X hW dX0_enter_44 (zc_s109 hS) rfl rfl (zi_vp (by decide)) (fun H locs hW => ?_)
      obtain ⟨g_15, hg_15⟩ : ∃ z : zm_T, z = zm_w g 109 1 key := ⟨_, rfl⟩
      have hW : zw_St Y N0 ad sh g_15 s H locs := by rw [hg_15]; exact hW
      obtain ⟨u_16, hu_16⟩ : ∃ z : zm_T, z = zm_w u 5 1 key := ⟨_, rfl⟩
      have hN : zc_N g_15 u_16 := by rw [hg_15, hu_16]; exact zc_Nw hN rfl _
      have e9 : u_16 = zm_w (if (u 5 (zn 1)).toInt < 0 then zs_clr (zm_w u 6 (zn 1) 20) (zn 1) else u) 5 (zn 1) key := by rw [hu_16]; rw [if_neg (show ¬ (u 5 (zn 1)).toInt < 0 from (by have h7 : 0 ≤ (u 5 1).toInt := h_14.2; show ¬ (u 5 1).toInt < 0; omega))]; rfl
      exact zr_vret X hW dX0_enter_45 (Nat.le_refl _) (Nat.le_refl _) ⟨rfl, rfl, rfl, by rw [← e9]; exact hN, fun r hr => by rw [hg_15, zm_wr (by omega)]⟩
    · subst h9
      have h_14 : ¬ (zs_bk u 1) := h_14
      refine zr_if_ne (a := 0) (tgt := 38) X dX0_enter_5 (by decide) (by decide) (fun c9 => absurd c9 (by decide)) (fun _ => ?_)
      refine lv_aload_n X.1 X.2.1 dX0_enter_8 rfl (lv_at hl 0 rfl) ?_
      refine zr_get (r := 103) (v := .ref (ad 110)) X hW fs_X0_15_0 dX0_enter_9 (zc_s103 hS) rfl rfl rfl ?_
      refine lv_iload_n X.1 X.2.1 dX0_enter_12 rfl (lv_at hl 1 rfl) ?_
      refine lv_bipush (v := 20) X.1 X.2.1 dX0_enter_13 (by decide) ?_
      refine zr_iast (r := 110) X hW dX0_enter_15 (zc_s110 hS) rfl rfl (zi_vp (by decide)) (fun H locs hW => ?_)
      obtain ⟨g_17, hg_17⟩ : ∃ z : zm_T, z = zm_w g 110 1 20 := ⟨_, rfl⟩
      have hW : zw_St Y N0 ad sh g_17 s H locs := by rw [hg_17]; exact hW
      obtain ⟨u_18, hu_18⟩ : ∃ z : zm_T, z = zm_w u 6 1 20 := ⟨_, rfl⟩
      have hN : zc_N g_17 u_18 := by rw [hg_17, hu_18]; exact zc_Nw hN rfl _
      refine lv_iconst (v := 0) X.1 X.2.1 dX0_enter_16 (by decide) ?_
      refine lv_istore_n (lv' := [(3, .int 0), (0, .ref (ad 103)), (1, .int 1), (2, .int key)]) X.1 X.2.1 dX0_enter_17 rfl hl (by decide) rfl (fun ls hl => ?_)
      refine lv_iload_n X.1 X.2.1 dX0_enter_18 rfl (lv_at hl 0 rfl) ?_
      refine lv_iconst (v := 3) X.1 X.2.1 dX0_enter_19 (by decide) ?_
      refine zr_icmp_ge (a := 0) (b := 3) (tgt := 38) X dX0_enter_20 (by decide) (by decide) (by decide) (fun c9 => absurd c9 (by decide)) (fun _ => ?_)
      refine lv_aload_n X.1 X.2.1 dX0_enter_23 rfl (lv_at hl 1 rfl) ?_
      refine zr_get (r := 103) (v := .ref (ad 111)) X hW fs_X0_20_0 dX0_enter_24 (zc_s103 hS) rfl rfl rfl ?_
      refine lv_iload_n X.1 X.2.1 dX0_enter_27 rfl (lv_at hl 2 rfl) ?_
      refine zr_aald (r := 111) (v := .ref (ad 122)) X hW dX0_enter_28 (zc_s111 hS) rfl rfl rfl (zi_vp (by decide)) rfl ?_
      refine lv_iload_n X.1 X.2.1 dX0_enter_29 rfl (lv_at hl 0 rfl) ?_
      refine lv_iconst (v := 0) X.1 X.2.1 dX0_enter_30 (by decide) ?_
      refine zr_iast (r := 122) X hW dX0_enter_31 (zc_s122 hS) rfl rfl (zi_vp (by decide)) (fun H locs hW => ?_)
      obtain ⟨g_19, hg_19⟩ : ∃ z : zm_T, z = zm_w g_17 122 0 0 := ⟨_, rfl⟩
      have hW : zw_St Y N0 ad sh g_19 s H locs := by rw [hg_19]; exact hW
      obtain ⟨u_20, hu_20⟩ : ∃ z : zm_T, z = zm_w u_18 7 3 0 := ⟨_, rfl⟩
      have hN : zc_N g_19 u_20 := by rw [hg_19, hu_20]; exact zc_Nw hN rfl _
      refine lv_iinc (v := 1) (lv' := [(3, .int 1), (0, .ref (ad 103)), (1, .int 1), (2, .int key)]) X.1 X.2.1 dX0_enter_32 hl (k := 0) rfl (by decide) (by decide) rfl (fun ls hl => ?_)
      refine lv_goto (tgt := 18) X.1 X.2.1 dX0_enter_35 (by decide) ?_
      refine lv_iload_n X.1 X.2.1 dX0_enter_18 rfl (lv_at hl 0 rfl) ?_
      refine lv_iconst (v := 3) X.1 X.2.1 dX0_enter_19 (by decide) ?_
      refine zr_icmp_ge (a := 1) (b := 3) (tgt := 38) X dX0_enter_20 (by decide) (by decide) (by decide) (fun c9 => absurd c9 (by decide)) (fun _ => ?_)
      refine lv_aload_n X.1 X.2.1 dX0_enter_23 rfl (lv_at hl 1 rfl) ?_
      refine zr_get (r := 103) (v := .ref (ad 111)) X hW fs_X0_20_0 dX0_enter_24 (zc_s103 hS) rfl rfl rfl ?_
      refine lv_iload_n X.1 X.2.1 dX0_enter_27 rfl (lv_at hl 2 rfl) ?_
      refine zr_aald (r := 111) (v := .ref (ad 122)) X hW dX0_enter_28 (zc_s111 hS) rfl rfl rfl (zi_vp (by decide)) rfl ?_
      refine lv_iload_n X.1 X.2.1 dX0_enter_29 rfl (lv_at hl 0 rfl) ?_
      refine lv_iconst (v := 0) X.1 X.2.1 dX0_enter_30 (by decide) ?_
      refine zr_iast (r := 122) X hW dX0_enter_31 (zc_s122 hS) rfl rfl (zi_vp (by decide)) (fun H locs hW => ?_)
      obtain ⟨g_21, hg_21⟩ : ∃ z : zm_T, z = zm_w g_19 122 1 0 := ⟨_, rfl⟩
      have hW : zw_St Y N0 ad sh g_21 s H locs := by rw [hg_21]; exact hW
      obtain ⟨u_22, hu_22⟩ : ∃ z : zm_T, z = zm_w u_20 7 4 0 := ⟨_, rfl⟩
      have hN : zc_N g_21 u_22 := by rw [hg_21, hu_22]; exact zc_Nw hN rfl _
      refine lv_iinc (v := 2) (lv' := [(3, .int 2), (0, .ref (ad 103)), (1, .int 1), (2, .int key)]) X.1 X.2.1 dX0_enter_32 hl (k := 0) rfl (by decide) (by decide) rfl (fun ls hl => ?_)
      refine lv_goto (tgt := 18) X.1 X.2.1 dX0_enter_35 (by decide) ?_
      refine lv_iload_n X.1 X.2.1 dX0_enter_18 rfl (lv_at hl 0 rfl) ?_
      refine lv_iconst (v := 3) X.1 X.2.1 dX0_enter_19 (by decide) ?_
      refine zr_icmp_ge (a := 2) (b := 3) (tgt := 38) X dX0_enter_20 (by decide) (by decide) (by decide) (fun c9 => absurd c9 (by decide)) (fun _ => ?_)
      refine lv_aload_n X.1 X.2.1 dX0_enter_23 rfl (lv_at hl 1 rfl) ?_
      refine zr_get (r := 103) (v := .ref (ad 111)) X hW fs_X0_20_0 dX0_enter_24 (zc_s103 hS) rfl rfl rfl ?_
      refine lv_iload_n X.1 X.2.1 dX0_enter_27 rfl (lv_at hl 2 rfl) ?_
      refine zr_aald (r := 111) (v := .ref (ad 122)) X hW dX0_enter_28 (zc_s111 hS) rfl rfl rfl (zi_vp (by decide)) rfl ?_
      refine lv_iload_n X.1 X.2.1 dX0_enter_29 rfl (lv_at hl 0 rfl) ?_
      refine lv_iconst (v := 0) X.1 X.2.1 dX0_enter_30 (by decide) ?_
      refine zr_iast (r := 122) X hW dX0_enter_31 (zc_s122 hS) rfl rfl (zi_vp (by decide)) (fun H locs hW => ?_)
      obtain ⟨g_23, hg_23⟩ : ∃ z : zm_T, z = zm_w g_21 122 2 0 := ⟨_, rfl⟩
      have hW : zw_St Y N0 ad sh g_23 s H locs := by rw [hg_23]; exact hW
      obtain ⟨u_24, hu_24⟩ : ∃ z : zm_T, z = zm_w u_22 7 5 0 := ⟨_, rfl⟩
      have hN : zc_N g_23 u_24 := by rw [hg_23, hu_24]; exact zc_Nw hN rfl _
      refine lv_iinc (v := 3) (lv' := [(3, .int 3), (0, .ref (ad 103)), (1, .int 1), (2, .int key)]) X.1 X.2.1 dX0_enter_32 hl (k := 0) rfl (by decide) (by decide) rfl (fun ls hl => ?_)
      refine lv_goto (tgt := 18) X.1 X.2.1 dX0_enter_35 (by decide) ?_
      refine lv_iload_n X.1 X.2.1 dX0_enter_18 rfl (lv_at hl 0 rfl) ?_
      refine lv_iconst (v := 3) X.1 X.2.1 dX0_enter_19 (by decide) ?_
      refine zr_icmp_ge (a := 3) (b := 3) (tgt := 38) X dX0_enter_20 (by decide) (by decide) (by decide) (fun _ => ?_) (fun c9 => absurd c9 (by decide))
      refine lv_aload_n X.1 X.2.1 dX0_enter_38 rfl (lv_at hl 1 rfl) ?_
      refine zr_get (r := 103) (v := .ref (ad 109)) X hW fs_X0_9_0 dX0_enter_39 (zc_s103 hS) rfl rfl rfl ?_
      refine lv_iload_n X.1 X.2.1 dX0_enter_42 rfl (lv_at hl 2 rfl) ?_
      refine lv_iload_n X.1 X.2.1 dX0_enter_43 rfl (lv_at hl 3 rfl) ?_
      refine zr_iast (r := 109) X hW dX0_enter_44 (zc_s109 hS) rfl rfl (zi_vp (by decide)) (fun H locs hW => ?_)
      obtain ⟨g_25, hg_25⟩ : ∃ z : zm_T, z = zm_w g_23 109 1 key := ⟨_, rfl⟩
      have hW : zw_St Y N0 ad sh g_25 s H locs := by rw [hg_25]; exact hW
      obtain ⟨u_26, hu_26⟩ : ∃ z : zm_T, z = zm_w u_24 5 1 key := ⟨_, rfl⟩
      have hN : zc_N g_25 u_26 := by rw [hg_25, hu_26]; exact zc_Nw hN rfl _
      have e9 : u_26 = zm_w (if (u 5 (zn 1)).toInt < 0 then zs_clr (zm_w u 6 (zn 1) 20) (zn 1) else u) 5 (zn 1) key := by rw [hu_26, hu_24, hu_22, hu_20, hu_18]; rw [if_pos (show (u 5 (zn 1)).toInt < 0 from (by have h8 := hB 1 (by omega); have h7 : ¬ ((0 : Int) ≤ (1 : Int32).toInt ∧ (1 : Int32).toInt ≤ 5) ∨ ¬ 0 ≤ (u 5 1).toInt := Classical.not_and_iff_not_or_not.mp h_14; have h6 : (1 : Int32).toInt = 1 := rfl; show (u 5 1).toInt < 0; omega))]; rw [← zs_clr3]; rfl
      exact zr_vret X hW dX0_enter_45 (Nat.le_refl _) (Nat.le_refl _) ⟨rfl, rfl, rfl, by rw [← e9]; exact hN, fun r hr => by rw [hg_25, hg_23, hg_21, hg_19, hg_17, zm_wr (by omega), zm_wr (by omega), zm_wr (by omega), zm_wr (by omega), zm_wr (by omega)]⟩
  · have ha : a = 2 := zi_ext ha
    subst ha
    refine lv_aload_n X.1 X.2.1 dX0_enter_0 rfl (lv_at hl 0 rfl) ?_
    refine lv_iload_n X.1 X.2.1 dX0_enter_1 rfl (lv_at hl 1 rfl) ?_
    refine zr_callV (As := [.int 2]) (rest := []) X hW hl.1 md_X0_holds ms_X0_27 dX0_enter_2 (zc_s103 hS) rfl rfl rfl rfl (Nat.le_of_ble_eq_true rfl) ⟨Nat.le_of_ble_eq_true rfl, Nat.le_of_ble_eq_true rfl⟩ ⟨Nat.le_of_ble_eq_true rfl, Nat.le_of_ble_eq_true rfl⟩ (c_X0_holds_b l Y N0 ad sh g u hS hN hB 2) (fun v9 ad9 sh9 g9 H locs hp hW => ?_)
    rcases hp with ⟨rfl, rfl, rfl, ⟨h_27, h9⟩ | ⟨h_27, h9⟩⟩
    · subst h9
      have h_27 : zs_bk u 2 := h_27
      refine zr_if_ne (a := 1) (tgt := 38) X dX0_enter_5 (by decide) (by decide) (fun _ => ?_) (fun c9 => absurd c9 (by decide))
      refine lv_aload_n X.1 X.2.1 dX0_enter_38 rfl (lv_at hl 0 rfl) ?_
      refine zr_get (r := 103) (v := .ref (ad 109)) X hW fs_X0_9_0 dX0_enter_39 (zc_s103 hS) rfl rfl rfl ?_
      refine lv_iload_n X.1 X.2.1 dX0_enter_42 rfl (lv_at hl 1 rfl) ?_
      refine lv_iload_n X.1 X.2.1 dX0_enter_43 rfl (lv_at hl 2 rfl) ?_
      refine zr_iast (r := 109) X hW dX0_enter_44 (zc_s109 hS) rfl rfl (zi_vp (by decide)) (fun H locs hW => ?_)
      obtain ⟨g_28, hg_28⟩ : ∃ z : zm_T, z = zm_w g 109 2 key := ⟨_, rfl⟩
      have hW : zw_St Y N0 ad sh g_28 s H locs := by rw [hg_28]; exact hW
      obtain ⟨u_29, hu_29⟩ : ∃ z : zm_T, z = zm_w u 5 2 key := ⟨_, rfl⟩
      have hN : zc_N g_28 u_29 := by rw [hg_28, hu_29]; exact zc_Nw hN rfl _
      have e9 : u_29 = zm_w (if (u 5 (zn 2)).toInt < 0 then zs_clr (zm_w u 6 (zn 2) 20) (zn 2) else u) 5 (zn 2) key := by rw [hu_29]; rw [if_neg (show ¬ (u 5 (zn 2)).toInt < 0 from (by have h7 : 0 ≤ (u 5 2).toInt := h_27.2; show ¬ (u 5 2).toInt < 0; omega))]; rfl
      exact zr_vret X hW dX0_enter_45 (Nat.le_refl _) (Nat.le_refl _) ⟨rfl, rfl, rfl, by rw [← e9]; exact hN, fun r hr => by rw [hg_28, zm_wr (by omega)]⟩
    · subst h9
      have h_27 : ¬ (zs_bk u 2) := h_27
      refine zr_if_ne (a := 0) (tgt := 38) X dX0_enter_5 (by decide) (by decide) (fun c9 => absurd c9 (by decide)) (fun _ => ?_)
      refine lv_aload_n X.1 X.2.1 dX0_enter_8 rfl (lv_at hl 0 rfl) ?_
      refine zr_get (r := 103) (v := .ref (ad 110)) X hW fs_X0_15_0 dX0_enter_9 (zc_s103 hS) rfl rfl rfl ?_
      refine lv_iload_n X.1 X.2.1 dX0_enter_12 rfl (lv_at hl 1 rfl) ?_
      refine lv_bipush (v := 20) X.1 X.2.1 dX0_enter_13 (by decide) ?_
      refine zr_iast (r := 110) X hW dX0_enter_15 (zc_s110 hS) rfl rfl (zi_vp (by decide)) (fun H locs hW => ?_)
      obtain ⟨g_30, hg_30⟩ : ∃ z : zm_T, z = zm_w g 110 2 20 := ⟨_, rfl⟩
      have hW : zw_St Y N0 ad sh g_30 s H locs := by rw [hg_30]; exact hW
      obtain ⟨u_31, hu_31⟩ : ∃ z : zm_T, z = zm_w u 6 2 20 := ⟨_, rfl⟩
      have hN : zc_N g_30 u_31 := by rw [hg_30, hu_31]; exact zc_Nw hN rfl _
      refine lv_iconst (v := 0) X.1 X.2.1 dX0_enter_16 (by decide) ?_
      refine lv_istore_n (lv' := [(3, .int 0), (0, .ref (ad 103)), (1, .int 2), (2, .int key)]) X.1 X.2.1 dX0_enter_17 rfl hl (by decide) rfl (fun ls hl => ?_)
      refine lv_iload_n X.1 X.2.1 dX0_enter_18 rfl (lv_at hl 0 rfl) ?_
      refine lv_iconst (v := 3) X.1 X.2.1 dX0_enter_19 (by decide) ?_
      refine zr_icmp_ge (a := 0) (b := 3) (tgt := 38) X dX0_enter_20 (by decide) (by decide) (by decide) (fun c9 => absurd c9 (by decide)) (fun _ => ?_)
      refine lv_aload_n X.1 X.2.1 dX0_enter_23 rfl (lv_at hl 1 rfl) ?_
      refine zr_get (r := 103) (v := .ref (ad 111)) X hW fs_X0_20_0 dX0_enter_24 (zc_s103 hS) rfl rfl rfl ?_
      refine lv_iload_n X.1 X.2.1 dX0_enter_27 rfl (lv_at hl 2 rfl) ?_
      refine zr_aald (r := 111) (v := .ref (ad 123)) X hW dX0_enter_28 (zc_s111 hS) rfl rfl rfl (zi_vp (by decide)) rfl ?_
      refine lv_iload_n X.1 X.2.1 dX0_enter_29 rfl (lv_at hl 0 rfl) ?_
      refine lv_iconst (v := 0) X.1 X.2.1 dX0_enter_30 (by decide) ?_
      refine zr_iast (r := 123) X hW dX0_enter_31 (zc_s123 hS) rfl rfl (zi_vp (by decide)) (fun H locs hW => ?_)
      obtain ⟨g_32, hg_32⟩ : ∃ z : zm_T, z = zm_w g_30 123 0 0 := ⟨_, rfl⟩
      have hW : zw_St Y N0 ad sh g_32 s H locs := by rw [hg_32]; exact hW
      obtain ⟨u_33, hu_33⟩ : ∃ z : zm_T, z = zm_w u_31 7 6 0 := ⟨_, rfl⟩
      have hN : zc_N g_32 u_33 := by rw [hg_32, hu_33]; exact zc_Nw hN rfl _
      refine lv_iinc (v := 1) (lv' := [(3, .int 1), (0, .ref (ad 103)), (1, .int 2), (2, .int key)]) X.1 X.2.1 dX0_enter_32 hl (k := 0) rfl (by decide) (by decide) rfl (fun ls hl => ?_)
      refine lv_goto (tgt := 18) X.1 X.2.1 dX0_enter_35 (by decide) ?_
      refine lv_iload_n X.1 X.2.1 dX0_enter_18 rfl (lv_at hl 0 rfl) ?_
      refine lv_iconst (v := 3) X.1 X.2.1 dX0_enter_19 (by decide) ?_
      refine zr_icmp_ge (a := 1) (b := 3) (tgt := 38) X dX0_enter_20 (by decide) (by decide) (by decide) (fun c9 => absurd c9 (by decide)) (fun _ => ?_)
      refine lv_aload_n X.1 X.2.1 dX0_enter_23 rfl (lv_at hl 1 rfl) ?_
      refine zr_get (r := 103) (v := .ref (ad 111)) X hW fs_X0_20_0 dX0_enter_24 (zc_s103 hS) rfl rfl rfl ?_
      refine lv_iload_n X.1 X.2.1 dX0_enter_27 rfl (lv_at hl 2 rfl) ?_
      refine zr_aald (r := 111) (v := .ref (ad 123)) X hW dX0_enter_28 (zc_s111 hS) rfl rfl rfl (zi_vp (by decide)) rfl ?_
      refine lv_iload_n X.1 X.2.1 dX0_enter_29 rfl (lv_at hl 0 rfl) ?_
      refine lv_iconst (v := 0) X.1 X.2.1 dX0_enter_30 (by decide) ?_
      refine zr_iast (r := 123) X hW dX0_enter_31 (zc_s123 hS) rfl rfl (zi_vp (by decide)) (fun H locs hW => ?_)
      obtain ⟨g_34, hg_34⟩ : ∃ z : zm_T, z = zm_w g_32 123 1 0 := ⟨_, rfl⟩
      have hW : zw_St Y N0 ad sh g_34 s H locs := by rw [hg_34]; exact hW
      obtain ⟨u_35, hu_35⟩ : ∃ z : zm_T, z = zm_w u_33 7 7 0 := ⟨_, rfl⟩
      have hN : zc_N g_34 u_35 := by rw [hg_34, hu_35]; exact zc_Nw hN rfl _
      refine lv_iinc (v := 2) (lv' := [(3, .int 2), (0, .ref (ad 103)), (1, .int 2), (2, .int key)]) X.1 X.2.1 dX0_enter_32 hl (k := 0) rfl (by decide) (by decide) rfl (fun ls hl => ?_)
      refine lv_goto (tgt := 18) X.1 X.2.1 dX0_enter_35 (by decide) ?_
      refine lv_iload_n X.1 X.2.1 dX0_enter_18 rfl (lv_at hl 0 rfl) ?_
      refine lv_iconst (v := 3) X.1 X.2.1 dX0_enter_19 (by decide) ?_
      refine zr_icmp_ge (a := 2) (b := 3) (tgt := 38) X dX0_enter_20 (by decide) (by decide) (by decide) (fun c9 => absurd c9 (by decide)) (fun _ => ?_)
      refine lv_aload_n X.1 X.2.1 dX0_enter_23 rfl (lv_at hl 1 rfl) ?_
      refine zr_get (r := 103) (v := .ref (ad 111)) X hW fs_X0_20_0 dX0_enter_24 (zc_s103 hS) rfl rfl rfl ?_
      refine lv_iload_n X.1 X.2.1 dX0_enter_27 rfl (lv_at hl 2 rfl) ?_
      refine zr_aald (r := 111) (v := .ref (ad 123)) X hW dX0_enter_28 (zc_s111 hS) rfl rfl rfl (zi_vp (by decide)) rfl ?_
      refine lv_iload_n X.1 X.2.1 dX0_enter_29 rfl (lv_at hl 0 rfl) ?_
      refine lv_iconst (v := 0) X.1 X.2.1 dX0_enter_30 (by decide) ?_
      refine zr_iast (r := 123) X hW dX0_enter_31 (zc_s123 hS) rfl rfl (zi_vp (by decide)) (fun H locs hW => ?_)
      obtain ⟨g_36, hg_36⟩ : ∃ z : zm_T, z = zm_w g_34 123 2 0 := ⟨_, rfl⟩
      have hW : zw_St Y N0 ad sh g_36 s H locs := by rw [hg_36]; exact hW
      obtain ⟨u_37, hu_37⟩ : ∃ z : zm_T, z = zm_w u_35 7 8 0 := ⟨_, rfl⟩
      have hN : zc_N g_36 u_37 := by rw [hg_36, hu_37]; exact zc_Nw hN rfl _
      refine lv_iinc (v := 3) (lv' := [(3, .int 3), (0, .ref (ad 103)), (1, .int 2), (2, .int key)]) X.1 X.2.1 dX0_enter_32 hl (k := 0) rfl (by decide) (by decide) rfl (fun ls hl => ?_)
      refine lv_goto (tgt := 18) X.1 X.2.1 dX0_enter_35 (by decide) ?_
      refine lv_iload_n X.1 X.2.1 dX0_enter_18 rfl (lv_at hl 0 rfl) ?_
      refine lv_iconst (v := 3) X.1 X.2.1 dX0_enter_19 (by decide) ?_
      refine zr_icmp_ge (a := 3) (b := 3) (tgt := 38) X dX0_enter_20 (by decide) (by decide) (by decide) (fun _ => ?_) (fun c9 => absurd c9 (by decide))
      refine lv_aload_n X.1 X.2.1 dX0_enter_38 rfl (lv_at hl 1 rfl) ?_
      refine zr_get (r := 103) (v := .ref (ad 109)) X hW fs_X0_9_0 dX0_enter_39 (zc_s103 hS) rfl rfl rfl ?_
      refine lv_iload_n X.1 X.2.1 dX0_enter_42 rfl (lv_at hl 2 rfl) ?_
      refine lv_iload_n X.1 X.2.1 dX0_enter_43 rfl (lv_at hl 3 rfl) ?_
      refine zr_iast (r := 109) X hW dX0_enter_44 (zc_s109 hS) rfl rfl (zi_vp (by decide)) (fun H locs hW => ?_)
      obtain ⟨g_38, hg_38⟩ : ∃ z : zm_T, z = zm_w g_36 109 2 key := ⟨_, rfl⟩
      have hW : zw_St Y N0 ad sh g_38 s H locs := by rw [hg_38]; exact hW
      obtain ⟨u_39, hu_39⟩ : ∃ z : zm_T, z = zm_w u_37 5 2 key := ⟨_, rfl⟩
      have hN : zc_N g_38 u_39 := by rw [hg_38, hu_39]; exact zc_Nw hN rfl _
      have e9 : u_39 = zm_w (if (u 5 (zn 2)).toInt < 0 then zs_clr (zm_w u 6 (zn 2) 20) (zn 2) else u) 5 (zn 2) key := by rw [hu_39, hu_37, hu_35, hu_33, hu_31]; rw [if_pos (show (u 5 (zn 2)).toInt < 0 from (by have h8 := hB 2 (by omega); have h7 : ¬ ((0 : Int) ≤ (2 : Int32).toInt ∧ (2 : Int32).toInt ≤ 5) ∨ ¬ 0 ≤ (u 5 2).toInt := Classical.not_and_iff_not_or_not.mp h_27; have h6 : (2 : Int32).toInt = 2 := rfl; show (u 5 2).toInt < 0; omega))]; rw [← zs_clr3]; rfl
      exact zr_vret X hW dX0_enter_45 (Nat.le_refl _) (Nat.le_refl _) ⟨rfl, rfl, rfl, by rw [← e9]; exact hN, fun r hr => by rw [hg_38, hg_36, hg_34, hg_32, hg_30, zm_wr (by omega), zm_wr (by omega), zm_wr (by omega), zm_wr (by omega), zm_wr (by omega)]⟩
  · have ha : a = 3 := zi_ext ha
    subst ha
    refine lv_aload_n X.1 X.2.1 dX0_enter_0 rfl (lv_at hl 0 rfl) ?_
    refine lv_iload_n X.1 X.2.1 dX0_enter_1 rfl (lv_at hl 1 rfl) ?_
    refine zr_callV (As := [.int 3]) (rest := []) X hW hl.1 md_X0_holds ms_X0_27 dX0_enter_2 (zc_s103 hS) rfl rfl rfl rfl (Nat.le_of_ble_eq_true rfl) ⟨Nat.le_of_ble_eq_true rfl, Nat.le_of_ble_eq_true rfl⟩ ⟨Nat.le_of_ble_eq_true rfl, Nat.le_of_ble_eq_true rfl⟩ (c_X0_holds_b l Y N0 ad sh g u hS hN hB 3) (fun v9 ad9 sh9 g9 H locs hp hW => ?_)
    rcases hp with ⟨rfl, rfl, rfl, ⟨h_40, h9⟩ | ⟨h_40, h9⟩⟩
    · subst h9
      have h_40 : zs_bk u 3 := h_40
      refine zr_if_ne (a := 1) (tgt := 38) X dX0_enter_5 (by decide) (by decide) (fun _ => ?_) (fun c9 => absurd c9 (by decide))
      refine lv_aload_n X.1 X.2.1 dX0_enter_38 rfl (lv_at hl 0 rfl) ?_
      refine zr_get (r := 103) (v := .ref (ad 109)) X hW fs_X0_9_0 dX0_enter_39 (zc_s103 hS) rfl rfl rfl ?_
      refine lv_iload_n X.1 X.2.1 dX0_enter_42 rfl (lv_at hl 1 rfl) ?_
      refine lv_iload_n X.1 X.2.1 dX0_enter_43 rfl (lv_at hl 2 rfl) ?_
      refine zr_iast (r := 109) X hW dX0_enter_44 (zc_s109 hS) rfl rfl (zi_vp (by decide)) (fun H locs hW => ?_)
      obtain ⟨g_41, hg_41⟩ : ∃ z : zm_T, z = zm_w g 109 3 key := ⟨_, rfl⟩
      have hW : zw_St Y N0 ad sh g_41 s H locs := by rw [hg_41]; exact hW
      obtain ⟨u_42, hu_42⟩ : ∃ z : zm_T, z = zm_w u 5 3 key := ⟨_, rfl⟩
      have hN : zc_N g_41 u_42 := by rw [hg_41, hu_42]; exact zc_Nw hN rfl _
      have e9 : u_42 = zm_w (if (u 5 (zn 3)).toInt < 0 then zs_clr (zm_w u 6 (zn 3) 20) (zn 3) else u) 5 (zn 3) key := by rw [hu_42]; rw [if_neg (show ¬ (u 5 (zn 3)).toInt < 0 from (by have h7 : 0 ≤ (u 5 3).toInt := h_40.2; show ¬ (u 5 3).toInt < 0; omega))]; rfl
      exact zr_vret X hW dX0_enter_45 (Nat.le_refl _) (Nat.le_refl _) ⟨rfl, rfl, rfl, by rw [← e9]; exact hN, fun r hr => by rw [hg_41, zm_wr (by omega)]⟩
    · subst h9
      have h_40 : ¬ (zs_bk u 3) := h_40
      refine zr_if_ne (a := 0) (tgt := 38) X dX0_enter_5 (by decide) (by decide) (fun c9 => absurd c9 (by decide)) (fun _ => ?_)
      refine lv_aload_n X.1 X.2.1 dX0_enter_8 rfl (lv_at hl 0 rfl) ?_
      refine zr_get (r := 103) (v := .ref (ad 110)) X hW fs_X0_15_0 dX0_enter_9 (zc_s103 hS) rfl rfl rfl ?_
      refine lv_iload_n X.1 X.2.1 dX0_enter_12 rfl (lv_at hl 1 rfl) ?_
      refine lv_bipush (v := 20) X.1 X.2.1 dX0_enter_13 (by decide) ?_
      refine zr_iast (r := 110) X hW dX0_enter_15 (zc_s110 hS) rfl rfl (zi_vp (by decide)) (fun H locs hW => ?_)
      obtain ⟨g_43, hg_43⟩ : ∃ z : zm_T, z = zm_w g 110 3 20 := ⟨_, rfl⟩
      have hW : zw_St Y N0 ad sh g_43 s H locs := by rw [hg_43]; exact hW
      obtain ⟨u_44, hu_44⟩ : ∃ z : zm_T, z = zm_w u 6 3 20 := ⟨_, rfl⟩
      have hN : zc_N g_43 u_44 := by rw [hg_43, hu_44]; exact zc_Nw hN rfl _
      refine lv_iconst (v := 0) X.1 X.2.1 dX0_enter_16 (by decide) ?_
      refine lv_istore_n (lv' := [(3, .int 0), (0, .ref (ad 103)), (1, .int 3), (2, .int key)]) X.1 X.2.1 dX0_enter_17 rfl hl (by decide) rfl (fun ls hl => ?_)
      refine lv_iload_n X.1 X.2.1 dX0_enter_18 rfl (lv_at hl 0 rfl) ?_
      refine lv_iconst (v := 3) X.1 X.2.1 dX0_enter_19 (by decide) ?_
      refine zr_icmp_ge (a := 0) (b := 3) (tgt := 38) X dX0_enter_20 (by decide) (by decide) (by decide) (fun c9 => absurd c9 (by decide)) (fun _ => ?_)
      refine lv_aload_n X.1 X.2.1 dX0_enter_23 rfl (lv_at hl 1 rfl) ?_
      refine zr_get (r := 103) (v := .ref (ad 111)) X hW fs_X0_20_0 dX0_enter_24 (zc_s103 hS) rfl rfl rfl ?_
      refine lv_iload_n X.1 X.2.1 dX0_enter_27 rfl (lv_at hl 2 rfl) ?_
      refine zr_aald (r := 111) (v := .ref (ad 124)) X hW dX0_enter_28 (zc_s111 hS) rfl rfl rfl (zi_vp (by decide)) rfl ?_
      refine lv_iload_n X.1 X.2.1 dX0_enter_29 rfl (lv_at hl 0 rfl) ?_
      refine lv_iconst (v := 0) X.1 X.2.1 dX0_enter_30 (by decide) ?_
      refine zr_iast (r := 124) X hW dX0_enter_31 (zc_s124 hS) rfl rfl (zi_vp (by decide)) (fun H locs hW => ?_)
      obtain ⟨g_45, hg_45⟩ : ∃ z : zm_T, z = zm_w g_43 124 0 0 := ⟨_, rfl⟩
      have hW : zw_St Y N0 ad sh g_45 s H locs := by rw [hg_45]; exact hW
      obtain ⟨u_46, hu_46⟩ : ∃ z : zm_T, z = zm_w u_44 7 9 0 := ⟨_, rfl⟩
      have hN : zc_N g_45 u_46 := by rw [hg_45, hu_46]; exact zc_Nw hN rfl _
      refine lv_iinc (v := 1) (lv' := [(3, .int 1), (0, .ref (ad 103)), (1, .int 3), (2, .int key)]) X.1 X.2.1 dX0_enter_32 hl (k := 0) rfl (by decide) (by decide) rfl (fun ls hl => ?_)
      refine lv_goto (tgt := 18) X.1 X.2.1 dX0_enter_35 (by decide) ?_
      refine lv_iload_n X.1 X.2.1 dX0_enter_18 rfl (lv_at hl 0 rfl) ?_
      refine lv_iconst (v := 3) X.1 X.2.1 dX0_enter_19 (by decide) ?_
      refine zr_icmp_ge (a := 1) (b := 3) (tgt := 38) X dX0_enter_20 (by decide) (by decide) (by decide) (fun c9 => absurd c9 (by decide)) (fun _ => ?_)
      refine lv_aload_n X.1 X.2.1 dX0_enter_23 rfl (lv_at hl 1 rfl) ?_
      refine zr_get (r := 103) (v := .ref (ad 111)) X hW fs_X0_20_0 dX0_enter_24 (zc_s103 hS) rfl rfl rfl ?_
      refine lv_iload_n X.1 X.2.1 dX0_enter_27 rfl (lv_at hl 2 rfl) ?_
      refine zr_aald (r := 111) (v := .ref (ad 124)) X hW dX0_enter_28 (zc_s111 hS) rfl rfl rfl (zi_vp (by decide)) rfl ?_
      refine lv_iload_n X.1 X.2.1 dX0_enter_29 rfl (lv_at hl 0 rfl) ?_
      refine lv_iconst (v := 0) X.1 X.2.1 dX0_enter_30 (by decide) ?_
      refine zr_iast (r := 124) X hW dX0_enter_31 (zc_s124 hS) rfl rfl (zi_vp (by decide)) (fun H locs hW => ?_)
      obtain ⟨g_47, hg_47⟩ : ∃ z : zm_T, z = zm_w g_45 124 1 0 := ⟨_, rfl⟩
      have hW : zw_St Y N0 ad sh g_47 s H locs := by rw [hg_47]; exact hW
      obtain ⟨u_48, hu_48⟩ : ∃ z : zm_T, z = zm_w u_46 7 10 0 := ⟨_, rfl⟩
      have hN : zc_N g_47 u_48 := by rw [hg_47, hu_48]; exact zc_Nw hN rfl _
      refine lv_iinc (v := 2) (lv' := [(3, .int 2), (0, .ref (ad 103)), (1, .int 3), (2, .int key)]) X.1 X.2.1 dX0_enter_32 hl (k := 0) rfl (by decide) (by decide) rfl (fun ls hl => ?_)
      refine lv_goto (tgt := 18) X.1 X.2.1 dX0_enter_35 (by decide) ?_
      refine lv_iload_n X.1 X.2.1 dX0_enter_18 rfl (lv_at hl 0 rfl) ?_
      refine lv_iconst (v := 3) X.1 X.2.1 dX0_enter_19 (by decide) ?_
      refine zr_icmp_ge (a := 2) (b := 3) (tgt := 38) X dX0_enter_20 (by decide) (by decide) (by decide) (fun c9 => absurd c9 (by decide)) (fun _ => ?_)
      refine lv_aload_n X.1 X.2.1 dX0_enter_23 rfl (lv_at hl 1 rfl) ?_
      refine zr_get (r := 103) (v := .ref (ad 111)) X hW fs_X0_20_0 dX0_enter_24 (zc_s103 hS) rfl rfl rfl ?_
      refine lv_iload_n X.1 X.2.1 dX0_enter_27 rfl (lv_at hl 2 rfl) ?_
      refine zr_aald (r := 111) (v := .ref (ad 124)) X hW dX0_enter_28 (zc_s111 hS) rfl rfl rfl (zi_vp (by decide)) rfl ?_
      refine lv_iload_n X.1 X.2.1 dX0_enter_29 rfl (lv_at hl 0 rfl) ?_
      refine lv_iconst (v := 0) X.1 X.2.1 dX0_enter_30 (by decide) ?_
      refine zr_iast (r := 124) X hW dX0_enter_31 (zc_s124 hS) rfl rfl (zi_vp (by decide)) (fun H locs hW => ?_)
      obtain ⟨g_49, hg_49⟩ : ∃ z : zm_T, z = zm_w g_47 124 2 0 := ⟨_, rfl⟩
      have hW : zw_St Y N0 ad sh g_49 s H locs := by rw [hg_49]; exact hW
      obtain ⟨u_50, hu_50⟩ : ∃ z : zm_T, z = zm_w u_48 7 11 0 := ⟨_, rfl⟩
      have hN : zc_N g_49 u_50 := by rw [hg_49, hu_50]; exact zc_Nw hN rfl _
      refine lv_iinc (v := 3) (lv' := [(3, .int 3), (0, .ref (ad 103)), (1, .int 3), (2, .int key)]) X.1 X.2.1 dX0_enter_32 hl (k := 0) rfl (by decide) (by decide) rfl (fun ls hl => ?_)
      refine lv_goto (tgt := 18) X.1 X.2.1 dX0_enter_35 (by decide) ?_
      refine lv_iload_n X.1 X.2.1 dX0_enter_18 rfl (lv_at hl 0 rfl) ?_
      refine lv_iconst (v := 3) X.1 X.2.1 dX0_enter_19 (by decide) ?_
      refine zr_icmp_ge (a := 3) (b := 3) (tgt := 38) X dX0_enter_20 (by decide) (by decide) (by decide) (fun _ => ?_) (fun c9 => absurd c9 (by decide))
      refine lv_aload_n X.1 X.2.1 dX0_enter_38 rfl (lv_at hl 1 rfl) ?_
      refine zr_get (r := 103) (v := .ref (ad 109)) X hW fs_X0_9_0 dX0_enter_39 (zc_s103 hS) rfl rfl rfl ?_
      refine lv_iload_n X.1 X.2.1 dX0_enter_42 rfl (lv_at hl 2 rfl) ?_
      refine lv_iload_n X.1 X.2.1 dX0_enter_43 rfl (lv_at hl 3 rfl) ?_
      refine zr_iast (r := 109) X hW dX0_enter_44 (zc_s109 hS) rfl rfl (zi_vp (by decide)) (fun H locs hW => ?_)
      obtain ⟨g_51, hg_51⟩ : ∃ z : zm_T, z = zm_w g_49 109 3 key := ⟨_, rfl⟩
      have hW : zw_St Y N0 ad sh g_51 s H locs := by rw [hg_51]; exact hW
      obtain ⟨u_52, hu_52⟩ : ∃ z : zm_T, z = zm_w u_50 5 3 key := ⟨_, rfl⟩
      have hN : zc_N g_51 u_52 := by rw [hg_51, hu_52]; exact zc_Nw hN rfl _
      have e9 : u_52 = zm_w (if (u 5 (zn 3)).toInt < 0 then zs_clr (zm_w u 6 (zn 3) 20) (zn 3) else u) 5 (zn 3) key := by rw [hu_52, hu_50, hu_48, hu_46, hu_44]; rw [if_pos (show (u 5 (zn 3)).toInt < 0 from (by have h8 := hB 3 (by omega); have h7 : ¬ ((0 : Int) ≤ (3 : Int32).toInt ∧ (3 : Int32).toInt ≤ 5) ∨ ¬ 0 ≤ (u 5 3).toInt := Classical.not_and_iff_not_or_not.mp h_40; have h6 : (3 : Int32).toInt = 3 := rfl; show (u 5 3).toInt < 0; omega))]; rw [← zs_clr3]; rfl
      exact zr_vret X hW dX0_enter_45 (Nat.le_refl _) (Nat.le_refl _) ⟨rfl, rfl, rfl, by rw [← e9]; exact hN, fun r hr => by rw [hg_51, hg_49, hg_47, hg_45, hg_43, zm_wr (by omega), zm_wr (by omega), zm_wr (by omega), zm_wr (by omega), zm_wr (by omega)]⟩
  · have ha : a = 4 := zi_ext ha
    subst ha
    refine lv_aload_n X.1 X.2.1 dX0_enter_0 rfl (lv_at hl 0 rfl) ?_
    refine lv_iload_n X.1 X.2.1 dX0_enter_1 rfl (lv_at hl 1 rfl) ?_
    refine zr_callV (As := [.int 4]) (rest := []) X hW hl.1 md_X0_holds ms_X0_27 dX0_enter_2 (zc_s103 hS) rfl rfl rfl rfl (Nat.le_of_ble_eq_true rfl) ⟨Nat.le_of_ble_eq_true rfl, Nat.le_of_ble_eq_true rfl⟩ ⟨Nat.le_of_ble_eq_true rfl, Nat.le_of_ble_eq_true rfl⟩ (c_X0_holds_b l Y N0 ad sh g u hS hN hB 4) (fun v9 ad9 sh9 g9 H locs hp hW => ?_)
    rcases hp with ⟨rfl, rfl, rfl, ⟨h_53, h9⟩ | ⟨h_53, h9⟩⟩
    · subst h9
      have h_53 : zs_bk u 4 := h_53
      refine zr_if_ne (a := 1) (tgt := 38) X dX0_enter_5 (by decide) (by decide) (fun _ => ?_) (fun c9 => absurd c9 (by decide))
      refine lv_aload_n X.1 X.2.1 dX0_enter_38 rfl (lv_at hl 0 rfl) ?_
      refine zr_get (r := 103) (v := .ref (ad 109)) X hW fs_X0_9_0 dX0_enter_39 (zc_s103 hS) rfl rfl rfl ?_
      refine lv_iload_n X.1 X.2.1 dX0_enter_42 rfl (lv_at hl 1 rfl) ?_
      refine lv_iload_n X.1 X.2.1 dX0_enter_43 rfl (lv_at hl 2 rfl) ?_
      refine zr_iast (r := 109) X hW dX0_enter_44 (zc_s109 hS) rfl rfl (zi_vp (by decide)) (fun H locs hW => ?_)
      obtain ⟨g_54, hg_54⟩ : ∃ z : zm_T, z = zm_w g 109 4 key := ⟨_, rfl⟩
      have hW : zw_St Y N0 ad sh g_54 s H locs := by rw [hg_54]; exact hW
      obtain ⟨u_55, hu_55⟩ : ∃ z : zm_T, z = zm_w u 5 4 key := ⟨_, rfl⟩
      have hN : zc_N g_54 u_55 := by rw [hg_54, hu_55]; exact zc_Nw hN rfl _
      have e9 : u_55 = zm_w (if (u 5 (zn 4)).toInt < 0 then zs_clr (zm_w u 6 (zn 4) 20) (zn 4) else u) 5 (zn 4) key := by rw [hu_55]; rw [if_neg (show ¬ (u 5 (zn 4)).toInt < 0 from (by have h7 : 0 ≤ (u 5 4).toInt := h_53.2; show ¬ (u 5 4).toInt < 0; omega))]; rfl
      exact zr_vret X hW dX0_enter_45 (Nat.le_refl _) (Nat.le_refl _) ⟨rfl, rfl, rfl, by rw [← e9]; exact hN, fun r hr => by rw [hg_54, zm_wr (by omega)]⟩
    · subst h9
      have h_53 : ¬ (zs_bk u 4) := h_53
      refine zr_if_ne (a := 0) (tgt := 38) X dX0_enter_5 (by decide) (by decide) (fun c9 => absurd c9 (by decide)) (fun _ => ?_)
      refine lv_aload_n X.1 X.2.1 dX0_enter_8 rfl (lv_at hl 0 rfl) ?_
      refine zr_get (r := 103) (v := .ref (ad 110)) X hW fs_X0_15_0 dX0_enter_9 (zc_s103 hS) rfl rfl rfl ?_
      refine lv_iload_n X.1 X.2.1 dX0_enter_12 rfl (lv_at hl 1 rfl) ?_
      refine lv_bipush (v := 20) X.1 X.2.1 dX0_enter_13 (by decide) ?_
      refine zr_iast (r := 110) X hW dX0_enter_15 (zc_s110 hS) rfl rfl (zi_vp (by decide)) (fun H locs hW => ?_)
      obtain ⟨g_56, hg_56⟩ : ∃ z : zm_T, z = zm_w g 110 4 20 := ⟨_, rfl⟩
      have hW : zw_St Y N0 ad sh g_56 s H locs := by rw [hg_56]; exact hW
      obtain ⟨u_57, hu_57⟩ : ∃ z : zm_T, z = zm_w u 6 4 20 := ⟨_, rfl⟩
      have hN : zc_N g_56 u_57 := by rw [hg_56, hu_57]; exact zc_Nw hN rfl _
      refine lv_iconst (v := 0) X.1 X.2.1 dX0_enter_16 (by decide) ?_
      refine lv_istore_n (lv' := [(3, .int 0), (0, .ref (ad 103)), (1, .int 4), (2, .int key)]) X.1 X.2.1 dX0_enter_17 rfl hl (by decide) rfl (fun ls hl => ?_)
      refine lv_iload_n X.1 X.2.1 dX0_enter_18 rfl (lv_at hl 0 rfl) ?_
      refine lv_iconst (v := 3) X.1 X.2.1 dX0_enter_19 (by decide) ?_
      refine zr_icmp_ge (a := 0) (b := 3) (tgt := 38) X dX0_enter_20 (by decide) (by decide) (by decide) (fun c9 => absurd c9 (by decide)) (fun _ => ?_)
      refine lv_aload_n X.1 X.2.1 dX0_enter_23 rfl (lv_at hl 1 rfl) ?_
      refine zr_get (r := 103) (v := .ref (ad 111)) X hW fs_X0_20_0 dX0_enter_24 (zc_s103 hS) rfl rfl rfl ?_
      refine lv_iload_n X.1 X.2.1 dX0_enter_27 rfl (lv_at hl 2 rfl) ?_
      refine zr_aald (r := 111) (v := .ref (ad 125)) X hW dX0_enter_28 (zc_s111 hS) rfl rfl rfl (zi_vp (by decide)) rfl ?_
      refine lv_iload_n X.1 X.2.1 dX0_enter_29 rfl (lv_at hl 0 rfl) ?_
      refine lv_iconst (v := 0) X.1 X.2.1 dX0_enter_30 (by decide) ?_
      refine zr_iast (r := 125) X hW dX0_enter_31 (zc_s125 hS) rfl rfl (zi_vp (by decide)) (fun H locs hW => ?_)
      obtain ⟨g_58, hg_58⟩ : ∃ z : zm_T, z = zm_w g_56 125 0 0 := ⟨_, rfl⟩
      have hW : zw_St Y N0 ad sh g_58 s H locs := by rw [hg_58]; exact hW
      obtain ⟨u_59, hu_59⟩ : ∃ z : zm_T, z = zm_w u_57 7 12 0 := ⟨_, rfl⟩
      have hN : zc_N g_58 u_59 := by rw [hg_58, hu_59]; exact zc_Nw hN rfl _
      refine lv_iinc (v := 1) (lv' := [(3, .int 1), (0, .ref (ad 103)), (1, .int 4), (2, .int key)]) X.1 X.2.1 dX0_enter_32 hl (k := 0) rfl (by decide) (by decide) rfl (fun ls hl => ?_)
      refine lv_goto (tgt := 18) X.1 X.2.1 dX0_enter_35 (by decide) ?_
      refine lv_iload_n X.1 X.2.1 dX0_enter_18 rfl (lv_at hl 0 rfl) ?_
      refine lv_iconst (v := 3) X.1 X.2.1 dX0_enter_19 (by decide) ?_
      refine zr_icmp_ge (a := 1) (b := 3) (tgt := 38) X dX0_enter_20 (by decide) (by decide) (by decide) (fun c9 => absurd c9 (by decide)) (fun _ => ?_)
      refine lv_aload_n X.1 X.2.1 dX0_enter_23 rfl (lv_at hl 1 rfl) ?_
      refine zr_get (r := 103) (v := .ref (ad 111)) X hW fs_X0_20_0 dX0_enter_24 (zc_s103 hS) rfl rfl rfl ?_
      refine lv_iload_n X.1 X.2.1 dX0_enter_27 rfl (lv_at hl 2 rfl) ?_
      refine zr_aald (r := 111) (v := .ref (ad 125)) X hW dX0_enter_28 (zc_s111 hS) rfl rfl rfl (zi_vp (by decide)) rfl ?_
      refine lv_iload_n X.1 X.2.1 dX0_enter_29 rfl (lv_at hl 0 rfl) ?_
      refine lv_iconst (v := 0) X.1 X.2.1 dX0_enter_30 (by decide) ?_
      refine zr_iast (r := 125) X hW dX0_enter_31 (zc_s125 hS) rfl rfl (zi_vp (by decide)) (fun H locs hW => ?_)
      obtain ⟨g_60, hg_60⟩ : ∃ z : zm_T, z = zm_w g_58 125 1 0 := ⟨_, rfl⟩
      have hW : zw_St Y N0 ad sh g_60 s H locs := by rw [hg_60]; exact hW
      obtain ⟨u_61, hu_61⟩ : ∃ z : zm_T, z = zm_w u_59 7 13 0 := ⟨_, rfl⟩
      have hN : zc_N g_60 u_61 := by rw [hg_60, hu_61]; exact zc_Nw hN rfl _
      refine lv_iinc (v := 2) (lv' := [(3, .int 2), (0, .ref (ad 103)), (1, .int 4), (2, .int key)]) X.1 X.2.1 dX0_enter_32 hl (k := 0) rfl (by decide) (by decide) rfl (fun ls hl => ?_)
      refine lv_goto (tgt := 18) X.1 X.2.1 dX0_enter_35 (by decide) ?_
      refine lv_iload_n X.1 X.2.1 dX0_enter_18 rfl (lv_at hl 0 rfl) ?_
      refine lv_iconst (v := 3) X.1 X.2.1 dX0_enter_19 (by decide) ?_
      refine zr_icmp_ge (a := 2) (b := 3) (tgt := 38) X dX0_enter_20 (by decide) (by decide) (by decide) (fun c9 => absurd c9 (by decide)) (fun _ => ?_)
      refine lv_aload_n X.1 X.2.1 dX0_enter_23 rfl (lv_at hl 1 rfl) ?_
      refine zr_get (r := 103) (v := .ref (ad 111)) X hW fs_X0_20_0 dX0_enter_24 (zc_s103 hS) rfl rfl rfl ?_
      refine lv_iload_n X.1 X.2.1 dX0_enter_27 rfl (lv_at hl 2 rfl) ?_
      refine zr_aald (r := 111) (v := .ref (ad 125)) X hW dX0_enter_28 (zc_s111 hS) rfl rfl rfl (zi_vp (by decide)) rfl ?_
      refine lv_iload_n X.1 X.2.1 dX0_enter_29 rfl (lv_at hl 0 rfl) ?_
      refine lv_iconst (v := 0) X.1 X.2.1 dX0_enter_30 (by decide) ?_
      refine zr_iast (r := 125) X hW dX0_enter_31 (zc_s125 hS) rfl rfl (zi_vp (by decide)) (fun H locs hW => ?_)
      obtain ⟨g_62, hg_62⟩ : ∃ z : zm_T, z = zm_w g_60 125 2 0 := ⟨_, rfl⟩
      have hW : zw_St Y N0 ad sh g_62 s H locs := by rw [hg_62]; exact hW
      obtain ⟨u_63, hu_63⟩ : ∃ z : zm_T, z = zm_w u_61 7 14 0 := ⟨_, rfl⟩
      have hN : zc_N g_62 u_63 := by rw [hg_62, hu_63]; exact zc_Nw hN rfl _
      refine lv_iinc (v := 3) (lv' := [(3, .int 3), (0, .ref (ad 103)), (1, .int 4), (2, .int key)]) X.1 X.2.1 dX0_enter_32 hl (k := 0) rfl (by decide) (by decide) rfl (fun ls hl => ?_)
      refine lv_goto (tgt := 18) X.1 X.2.1 dX0_enter_35 (by decide) ?_
      refine lv_iload_n X.1 X.2.1 dX0_enter_18 rfl (lv_at hl 0 rfl) ?_
      refine lv_iconst (v := 3) X.1 X.2.1 dX0_enter_19 (by decide) ?_
      refine zr_icmp_ge (a := 3) (b := 3) (tgt := 38) X dX0_enter_20 (by decide) (by decide) (by decide) (fun _ => ?_) (fun c9 => absurd c9 (by decide))
      refine lv_aload_n X.1 X.2.1 dX0_enter_38 rfl (lv_at hl 1 rfl) ?_
      refine zr_get (r := 103) (v := .ref (ad 109)) X hW fs_X0_9_0 dX0_enter_39 (zc_s103 hS) rfl rfl rfl ?_
      refine lv_iload_n X.1 X.2.1 dX0_enter_42 rfl (lv_at hl 2 rfl) ?_
      refine lv_iload_n X.1 X.2.1 dX0_enter_43 rfl (lv_at hl 3 rfl) ?_
      refine zr_iast (r := 109) X hW dX0_enter_44 (zc_s109 hS) rfl rfl (zi_vp (by decide)) (fun H locs hW => ?_)
      obtain ⟨g_64, hg_64⟩ : ∃ z : zm_T, z = zm_w g_62 109 4 key := ⟨_, rfl⟩
      have hW : zw_St Y N0 ad sh g_64 s H locs := by rw [hg_64]; exact hW
      obtain ⟨u_65, hu_65⟩ : ∃ z : zm_T, z = zm_w u_63 5 4 key := ⟨_, rfl⟩
      have hN : zc_N g_64 u_65 := by rw [hg_64, hu_65]; exact zc_Nw hN rfl _
      have e9 : u_65 = zm_w (if (u 5 (zn 4)).toInt < 0 then zs_clr (zm_w u 6 (zn 4) 20) (zn 4) else u) 5 (zn 4) key := by rw [hu_65, hu_63, hu_61, hu_59, hu_57]; rw [if_pos (show (u 5 (zn 4)).toInt < 0 from (by have h8 := hB 4 (by omega); have h7 : ¬ ((0 : Int) ≤ (4 : Int32).toInt ∧ (4 : Int32).toInt ≤ 5) ∨ ¬ 0 ≤ (u 5 4).toInt := Classical.not_and_iff_not_or_not.mp h_53; have h6 : (4 : Int32).toInt = 4 := rfl; show (u 5 4).toInt < 0; omega))]; rw [← zs_clr3]; rfl
      exact zr_vret X hW dX0_enter_45 (Nat.le_refl _) (Nat.le_refl _) ⟨rfl, rfl, rfl, by rw [← e9]; exact hN, fun r hr => by rw [hg_64, hg_62, hg_60, hg_58, hg_56, zm_wr (by omega), zm_wr (by omega), zm_wr (by omega), zm_wr (by omega), zm_wr (by omega)]⟩
  · have ha : a = 5 := zi_ext ha
    subst ha
    refine lv_aload_n X.1 X.2.1 dX0_enter_0 rfl (lv_at hl 0 rfl) ?_
    refine lv_iload_n X.1 X.2.1 dX0_enter_1 rfl (lv_at hl 1 rfl) ?_
    refine zr_callV (As := [.int 5]) (rest := []) X hW hl.1 md_X0_holds ms_X0_27 dX0_enter_2 (zc_s103 hS) rfl rfl rfl rfl (Nat.le_of_ble_eq_true rfl) ⟨Nat.le_of_ble_eq_true rfl, Nat.le_of_ble_eq_true rfl⟩ ⟨Nat.le_of_ble_eq_true rfl, Nat.le_of_ble_eq_true rfl⟩ (c_X0_holds_b l Y N0 ad sh g u hS hN hB 5) (fun v9 ad9 sh9 g9 H locs hp hW => ?_)
    rcases hp with ⟨rfl, rfl, rfl, ⟨h_66, h9⟩ | ⟨h_66, h9⟩⟩
    · subst h9
      have h_66 : zs_bk u 5 := h_66
      refine zr_if_ne (a := 1) (tgt := 38) X dX0_enter_5 (by decide) (by decide) (fun _ => ?_) (fun c9 => absurd c9 (by decide))
      refine lv_aload_n X.1 X.2.1 dX0_enter_38 rfl (lv_at hl 0 rfl) ?_
      refine zr_get (r := 103) (v := .ref (ad 109)) X hW fs_X0_9_0 dX0_enter_39 (zc_s103 hS) rfl rfl rfl ?_
      refine lv_iload_n X.1 X.2.1 dX0_enter_42 rfl (lv_at hl 1 rfl) ?_
      refine lv_iload_n X.1 X.2.1 dX0_enter_43 rfl (lv_at hl 2 rfl) ?_
      refine zr_iast (r := 109) X hW dX0_enter_44 (zc_s109 hS) rfl rfl (zi_vp (by decide)) (fun H locs hW => ?_)
      obtain ⟨g_67, hg_67⟩ : ∃ z : zm_T, z = zm_w g 109 5 key := ⟨_, rfl⟩
      have hW : zw_St Y N0 ad sh g_67 s H locs := by rw [hg_67]; exact hW
      obtain ⟨u_68, hu_68⟩ : ∃ z : zm_T, z = zm_w u 5 5 key := ⟨_, rfl⟩
      have hN : zc_N g_67 u_68 := by rw [hg_67, hu_68]; exact zc_Nw hN rfl _
      have e9 : u_68 = zm_w (if (u 5 (zn 5)).toInt < 0 then zs_clr (zm_w u 6 (zn 5) 20) (zn 5) else u) 5 (zn 5) key := by rw [hu_68]; rw [if_neg (show ¬ (u 5 (zn 5)).toInt < 0 from (by have h7 : 0 ≤ (u 5 5).toInt := h_66.2; show ¬ (u 5 5).toInt < 0; omega))]; rfl
      exact zr_vret X hW dX0_enter_45 (Nat.le_refl _) (Nat.le_refl _) ⟨rfl, rfl, rfl, by rw [← e9]; exact hN, fun r hr => by rw [hg_67, zm_wr (by omega)]⟩
    · subst h9
      have h_66 : ¬ (zs_bk u 5) := h_66
      refine zr_if_ne (a := 0) (tgt := 38) X dX0_enter_5 (by decide) (by decide) (fun c9 => absurd c9 (by decide)) (fun _ => ?_)
      refine lv_aload_n X.1 X.2.1 dX0_enter_8 rfl (lv_at hl 0 rfl) ?_
      refine zr_get (r := 103) (v := .ref (ad 110)) X hW fs_X0_15_0 dX0_enter_9 (zc_s103 hS) rfl rfl rfl ?_
      refine lv_iload_n X.1 X.2.1 dX0_enter_12 rfl (lv_at hl 1 rfl) ?_
      refine lv_bipush (v := 20) X.1 X.2.1 dX0_enter_13 (by decide) ?_
      refine zr_iast (r := 110) X hW dX0_enter_15 (zc_s110 hS) rfl rfl (zi_vp (by decide)) (fun H locs hW => ?_)
      obtain ⟨g_69, hg_69⟩ : ∃ z : zm_T, z = zm_w g 110 5 20 := ⟨_, rfl⟩
      have hW : zw_St Y N0 ad sh g_69 s H locs := by rw [hg_69]; exact hW
      obtain ⟨u_70, hu_70⟩ : ∃ z : zm_T, z = zm_w u 6 5 20 := ⟨_, rfl⟩
      have hN : zc_N g_69 u_70 := by rw [hg_69, hu_70]; exact zc_Nw hN rfl _
      refine lv_iconst (v := 0) X.1 X.2.1 dX0_enter_16 (by decide) ?_
      refine lv_istore_n (lv' := [(3, .int 0), (0, .ref (ad 103)), (1, .int 5), (2, .int key)]) X.1 X.2.1 dX0_enter_17 rfl hl (by decide) rfl (fun ls hl => ?_)
      refine lv_iload_n X.1 X.2.1 dX0_enter_18 rfl (lv_at hl 0 rfl) ?_
      refine lv_iconst (v := 3) X.1 X.2.1 dX0_enter_19 (by decide) ?_
      refine zr_icmp_ge (a := 0) (b := 3) (tgt := 38) X dX0_enter_20 (by decide) (by decide) (by decide) (fun c9 => absurd c9 (by decide)) (fun _ => ?_)
      refine lv_aload_n X.1 X.2.1 dX0_enter_23 rfl (lv_at hl 1 rfl) ?_
      refine zr_get (r := 103) (v := .ref (ad 111)) X hW fs_X0_20_0 dX0_enter_24 (zc_s103 hS) rfl rfl rfl ?_
      refine lv_iload_n X.1 X.2.1 dX0_enter_27 rfl (lv_at hl 2 rfl) ?_
      refine zr_aald (r := 111) (v := .ref (ad 126)) X hW dX0_enter_28 (zc_s111 hS) rfl rfl rfl (zi_vp (by decide)) rfl ?_
      refine lv_iload_n X.1 X.2.1 dX0_enter_29 rfl (lv_at hl 0 rfl) ?_
      refine lv_iconst (v := 0) X.1 X.2.1 dX0_enter_30 (by decide) ?_
      refine zr_iast (r := 126) X hW dX0_enter_31 (zc_s126 hS) rfl rfl (zi_vp (by decide)) (fun H locs hW => ?_)
      obtain ⟨g_71, hg_71⟩ : ∃ z : zm_T, z = zm_w g_69 126 0 0 := ⟨_, rfl⟩
      have hW : zw_St Y N0 ad sh g_71 s H locs := by rw [hg_71]; exact hW
      obtain ⟨u_72, hu_72⟩ : ∃ z : zm_T, z = zm_w u_70 7 15 0 := ⟨_, rfl⟩
      have hN : zc_N g_71 u_72 := by rw [hg_71, hu_72]; exact zc_Nw hN rfl _
      refine lv_iinc (v := 1) (lv' := [(3, .int 1), (0, .ref (ad 103)), (1, .int 5), (2, .int key)]) X.1 X.2.1 dX0_enter_32 hl (k := 0) rfl (by decide) (by decide) rfl (fun ls hl => ?_)
      refine lv_goto (tgt := 18) X.1 X.2.1 dX0_enter_35 (by decide) ?_
      refine lv_iload_n X.1 X.2.1 dX0_enter_18 rfl (lv_at hl 0 rfl) ?_
      refine lv_iconst (v := 3) X.1 X.2.1 dX0_enter_19 (by decide) ?_
      refine zr_icmp_ge (a := 1) (b := 3) (tgt := 38) X dX0_enter_20 (by decide) (by decide) (by decide) (fun c9 => absurd c9 (by decide)) (fun _ => ?_)
      refine lv_aload_n X.1 X.2.1 dX0_enter_23 rfl (lv_at hl 1 rfl) ?_
      refine zr_get (r := 103) (v := .ref (ad 111)) X hW fs_X0_20_0 dX0_enter_24 (zc_s103 hS) rfl rfl rfl ?_
      refine lv_iload_n X.1 X.2.1 dX0_enter_27 rfl (lv_at hl 2 rfl) ?_
      refine zr_aald (r := 111) (v := .ref (ad 126)) X hW dX0_enter_28 (zc_s111 hS) rfl rfl rfl (zi_vp (by decide)) rfl ?_
      refine lv_iload_n X.1 X.2.1 dX0_enter_29 rfl (lv_at hl 0 rfl) ?_
      refine lv_iconst (v := 0) X.1 X.2.1 dX0_enter_30 (by decide) ?_
      refine zr_iast (r := 126) X hW dX0_enter_31 (zc_s126 hS) rfl rfl (zi_vp (by decide)) (fun H locs hW => ?_)
      obtain ⟨g_73, hg_73⟩ : ∃ z : zm_T, z = zm_w g_71 126 1 0 := ⟨_, rfl⟩
      have hW : zw_St Y N0 ad sh g_73 s H locs := by rw [hg_73]; exact hW
      obtain ⟨u_74, hu_74⟩ : ∃ z : zm_T, z = zm_w u_72 7 16 0 := ⟨_, rfl⟩
      have hN : zc_N g_73 u_74 := by rw [hg_73, hu_74]; exact zc_Nw hN rfl _
      refine lv_iinc (v := 2) (lv' := [(3, .int 2), (0, .ref (ad 103)), (1, .int 5), (2, .int key)]) X.1 X.2.1 dX0_enter_32 hl (k := 0) rfl (by decide) (by decide) rfl (fun ls hl => ?_)
      refine lv_goto (tgt := 18) X.1 X.2.1 dX0_enter_35 (by decide) ?_
      refine lv_iload_n X.1 X.2.1 dX0_enter_18 rfl (lv_at hl 0 rfl) ?_
      refine lv_iconst (v := 3) X.1 X.2.1 dX0_enter_19 (by decide) ?_
      refine zr_icmp_ge (a := 2) (b := 3) (tgt := 38) X dX0_enter_20 (by decide) (by decide) (by decide) (fun c9 => absurd c9 (by decide)) (fun _ => ?_)
      refine lv_aload_n X.1 X.2.1 dX0_enter_23 rfl (lv_at hl 1 rfl) ?_
      refine zr_get (r := 103) (v := .ref (ad 111)) X hW fs_X0_20_0 dX0_enter_24 (zc_s103 hS) rfl rfl rfl ?_
      refine lv_iload_n X.1 X.2.1 dX0_enter_27 rfl (lv_at hl 2 rfl) ?_
      refine zr_aald (r := 111) (v := .ref (ad 126)) X hW dX0_enter_28 (zc_s111 hS) rfl rfl rfl (zi_vp (by decide)) rfl ?_
      refine lv_iload_n X.1 X.2.1 dX0_enter_29 rfl (lv_at hl 0 rfl) ?_
      refine lv_iconst (v := 0) X.1 X.2.1 dX0_enter_30 (by decide) ?_
      refine zr_iast (r := 126) X hW dX0_enter_31 (zc_s126 hS) rfl rfl (zi_vp (by decide)) (fun H locs hW => ?_)
      obtain ⟨g_75, hg_75⟩ : ∃ z : zm_T, z = zm_w g_73 126 2 0 := ⟨_, rfl⟩
      have hW : zw_St Y N0 ad sh g_75 s H locs := by rw [hg_75]; exact hW
      obtain ⟨u_76, hu_76⟩ : ∃ z : zm_T, z = zm_w u_74 7 17 0 := ⟨_, rfl⟩
      have hN : zc_N g_75 u_76 := by rw [hg_75, hu_76]; exact zc_Nw hN rfl _
      refine lv_iinc (v := 3) (lv' := [(3, .int 3), (0, .ref (ad 103)), (1, .int 5), (2, .int key)]) X.1 X.2.1 dX0_enter_32 hl (k := 0) rfl (by decide) (by decide) rfl (fun ls hl => ?_)
      refine lv_goto (tgt := 18) X.1 X.2.1 dX0_enter_35 (by decide) ?_
      refine lv_iload_n X.1 X.2.1 dX0_enter_18 rfl (lv_at hl 0 rfl) ?_
      refine lv_iconst (v := 3) X.1 X.2.1 dX0_enter_19 (by decide) ?_
      refine zr_icmp_ge (a := 3) (b := 3) (tgt := 38) X dX0_enter_20 (by decide) (by decide) (by decide) (fun _ => ?_) (fun c9 => absurd c9 (by decide))
      refine lv_aload_n X.1 X.2.1 dX0_enter_38 rfl (lv_at hl 1 rfl) ?_
      refine zr_get (r := 103) (v := .ref (ad 109)) X hW fs_X0_9_0 dX0_enter_39 (zc_s103 hS) rfl rfl rfl ?_
      refine lv_iload_n X.1 X.2.1 dX0_enter_42 rfl (lv_at hl 2 rfl) ?_
      refine lv_iload_n X.1 X.2.1 dX0_enter_43 rfl (lv_at hl 3 rfl) ?_
      refine zr_iast (r := 109) X hW dX0_enter_44 (zc_s109 hS) rfl rfl (zi_vp (by decide)) (fun H locs hW => ?_)
      obtain ⟨g_77, hg_77⟩ : ∃ z : zm_T, z = zm_w g_75 109 5 key := ⟨_, rfl⟩
      have hW : zw_St Y N0 ad sh g_77 s H locs := by rw [hg_77]; exact hW
      obtain ⟨u_78, hu_78⟩ : ∃ z : zm_T, z = zm_w u_76 5 5 key := ⟨_, rfl⟩
      have hN : zc_N g_77 u_78 := by rw [hg_77, hu_78]; exact zc_Nw hN rfl _
      have e9 : u_78 = zm_w (if (u 5 (zn 5)).toInt < 0 then zs_clr (zm_w u 6 (zn 5) 20) (zn 5) else u) 5 (zn 5) key := by rw [hu_78, hu_76, hu_74, hu_72, hu_70]; rw [if_pos (show (u 5 (zn 5)).toInt < 0 from (by have h8 := hB 5 (by omega); have h7 : ¬ ((0 : Int) ≤ (5 : Int32).toInt ∧ (5 : Int32).toInt ≤ 5) ∨ ¬ 0 ≤ (u 5 5).toInt := Classical.not_and_iff_not_or_not.mp h_66; have h6 : (5 : Int32).toInt = 5 := rfl; show (u 5 5).toInt < 0; omega))]; rw [← zs_clr3]; rfl
      exact zr_vret X hW dX0_enter_45 (Nat.le_refl _) (Nat.le_refl _) ⟨rfl, rfl, rfl, by rw [← e9]; exact hN, fun r hr => by rw [hg_77, hg_75, hg_73, hg_71, hg_69, zm_wr (by omega), zm_wr (by omega), zm_wr (by omega), zm_wr (by omega), zm_wr (by omega)]⟩

set_option maxHeartbeats 4000000 in
set_option maxRecDepth 100000 in
theorem c_X0_copyFrom_b (l : Launch) (Y : zw_Y) (N0 : Nat) (ad : Nat → Nat) (sh : Nat → Option zw_Sh) (g u : zm_T) (hS : zc_S sh) (hN : zc_N g u) : zw_Met l Y N0 yX0_copyFrom cX0_copyFrom 4 none 0 0 0 0 ad sh g [.ref (ad 103), .ref (ad 104)] (zp_G ad sh (fun v g' => v = none ∧ zc_N g' (zs_cp u 6 0) ∧ zc_bf g g')) := by
  refine zw_meth (by decide) (Nat.le_of_ble_eq_true rfl) ?_
  intro p e s m below meth c ls X hnm hl hW
  have hl : lv_has ls 4 [(0, .ref (ad 103)), (1, .ref (ad 104))] := hl
  have hN0 := hN
  refine lv_iconst (v := 0) X.1 X.2.1 dX0_copyFrom_0 (by decide) ?_
  refine lv_istore_n (lv' := [(2, .int 0), (0, .ref (ad 103)), (1, .ref (ad 104))]) X.1 X.2.1 dX0_copyFrom_1 rfl hl (by decide) rfl (fun ls hl => ?_)
  refine lv_iload_n X.1 X.2.1 dX0_copyFrom_2 rfl (lv_at hl 0 rfl) ?_
  refine lv_bipush (v := 6) X.1 X.2.1 dX0_copyFrom_3 (by decide) ?_
  refine zr_icmp_ge (a := 0) (b := 6) (tgt := 67) X dX0_copyFrom_5 (by decide) (by decide) (by decide) (fun c9 => absurd c9 (by decide)) (fun _ => ?_)
  refine lv_aload_n X.1 X.2.1 dX0_copyFrom_8 rfl (lv_at hl 1 rfl) ?_
  refine zr_get (r := 103) (v := .ref (ad 109)) X hW fs_X0_9_0 dX0_copyFrom_9 (zc_s103 hS) rfl rfl rfl ?_
  refine lv_iload_n X.1 X.2.1 dX0_copyFrom_12 rfl (lv_at hl 0 rfl) ?_
  refine lv_aload_n X.1 X.2.1 dX0_copyFrom_13 rfl (lv_at hl 2 rfl) ?_
  refine zr_get (r := 104) (v := .ref (ad 112)) X hW fs_X0_9_0 dX0_copyFrom_14 (zc_s104 hS) rfl rfl rfl ?_
  refine lv_iload_n X.1 X.2.1 dX0_copyFrom_17 rfl (lv_at hl 0 rfl) ?_
  refine zr_iald (r := 112) (v := u 5 6) X hW dX0_copyFrom_18 (zc_s112 hS) rfl rfl (zi_vp (by decide)) ((show g 112 (0 : Int32).toNatClampNeg = g 112 0 from rfl).trans (hN0 _ _ _ _ rfl)) ?_
  refine zr_iast (r := 109) X hW dX0_copyFrom_19 (zc_s109 hS) rfl rfl (zi_vp (by decide)) (fun H locs hW => ?_)
  obtain ⟨g_1, hg_1⟩ : ∃ z : zm_T, z = zm_w g 109 0 (u 5 6) := ⟨_, rfl⟩
  have hW : zw_St Y N0 ad sh g_1 s H locs := by rw [hg_1]; exact hW
  obtain ⟨u_2, hu_2⟩ : ∃ z : zm_T, z = zm_w u 5 0 (u 5 6) := ⟨_, rfl⟩
  have hN : zc_N g_1 u_2 := by rw [hg_1, hu_2]; exact zc_Nw hN rfl _
  refine lv_aload_n X.1 X.2.1 dX0_copyFrom_20 rfl (lv_at hl 1 rfl) ?_
  refine zr_get (r := 103) (v := .ref (ad 110)) X hW fs_X0_15_0 dX0_copyFrom_21 (zc_s103 hS) rfl rfl rfl ?_
  refine lv_iload_n X.1 X.2.1 dX0_copyFrom_24 rfl (lv_at hl 0 rfl) ?_
  refine lv_aload_n X.1 X.2.1 dX0_copyFrom_25 rfl (lv_at hl 2 rfl) ?_
  refine zr_get (r := 104) (v := .ref (ad 113)) X hW fs_X0_15_0 dX0_copyFrom_26 (zc_s104 hS) rfl rfl rfl ?_
  refine lv_iload_n X.1 X.2.1 dX0_copyFrom_29 rfl (lv_at hl 0 rfl) ?_
  refine zr_iald (r := 113) (v := u 6 6) X hW dX0_copyFrom_30 (zc_s113 hS) rfl rfl (zi_vp (by decide)) ((show g_1 113 (0 : Int32).toNatClampNeg = g_1 113 0 from rfl).trans ((show g_1 113 0 = g 113 0 from (by rw [hg_1]; rfl)).trans (hN0 _ _ _ _ rfl))) ?_
  refine zr_iast (r := 110) X hW dX0_copyFrom_31 (zc_s110 hS) rfl rfl (zi_vp (by decide)) (fun H locs hW => ?_)
  obtain ⟨g_3, hg_3⟩ : ∃ z : zm_T, z = zm_w g_1 110 0 (u 6 6) := ⟨_, rfl⟩
  have hW : zw_St Y N0 ad sh g_3 s H locs := by rw [hg_3]; exact hW
  obtain ⟨u_4, hu_4⟩ : ∃ z : zm_T, z = zm_w u_2 6 0 (u 6 6) := ⟨_, rfl⟩
  have hN : zc_N g_3 u_4 := by rw [hg_3, hu_4]; exact zc_Nw hN rfl _
  refine lv_iconst (v := 0) X.1 X.2.1 dX0_copyFrom_32 (by decide) ?_
  refine lv_istore_n (lv' := [(3, .int 0), (2, .int 0), (0, .ref (ad 103)), (1, .ref (ad 104))]) X.1 X.2.1 dX0_copyFrom_33 rfl hl (by decide) rfl (fun ls hl => ?_)
  refine lv_iload_n X.1 X.2.1 dX0_copyFrom_34 rfl (lv_at hl 0 rfl) ?_
  refine lv_iconst (v := 3) X.1 X.2.1 dX0_copyFrom_35 (by decide) ?_
  refine zr_icmp_ge (a := 0) (b := 3) (tgt := 61) X dX0_copyFrom_36 (by decide) (by decide) (by decide) (fun c9 => absurd c9 (by decide)) (fun _ => ?_)
  refine lv_aload_n X.1 X.2.1 dX0_copyFrom_39 rfl (lv_at hl 2 rfl) ?_
  refine zr_get (r := 103) (v := .ref (ad 111)) X hW fs_X0_20_0 dX0_copyFrom_40 (zc_s103 hS) rfl rfl rfl ?_
  refine lv_iload_n X.1 X.2.1 dX0_copyFrom_43 rfl (lv_at hl 1 rfl) ?_
  refine zr_aald (r := 111) (v := .ref (ad 121)) X hW dX0_copyFrom_44 (zc_s111 hS) rfl rfl rfl (zi_vp (by decide)) rfl ?_
  refine lv_iload_n X.1 X.2.1 dX0_copyFrom_45 rfl (lv_at hl 0 rfl) ?_
  refine lv_aload_n X.1 X.2.1 dX0_copyFrom_46 rfl (lv_at hl 3 rfl) ?_
  refine zr_get (r := 104) (v := .ref (ad 114)) X hW fs_X0_20_0 dX0_copyFrom_47 (zc_s104 hS) rfl rfl rfl ?_
  refine lv_iload_n X.1 X.2.1 dX0_copyFrom_50 rfl (lv_at hl 1 rfl) ?_
  refine zr_aald (r := 114) (v := .ref (ad 127)) X hW dX0_copyFrom_51 (zc_s114 hS) rfl rfl rfl (zi_vp (by decide)) rfl ?_
  refine lv_iload_n X.1 X.2.1 dX0_copyFrom_52 rfl (lv_at hl 0 rfl) ?_
  refine zr_iald (r := 127) (v := u 7 18) X hW dX0_copyFrom_53 (zc_s127 hS) rfl rfl (zi_vp (by decide)) ((show g_3 127 (0 : Int32).toNatClampNeg = g_3 127 0 from rfl).trans ((show g_3 127 0 = g_1 127 0 from (by rw [hg_3]; rfl)).trans ((show g_1 127 0 = g 127 0 from (by rw [hg_1]; rfl)).trans (hN0 _ _ _ _ rfl)))) ?_
  refine zr_iast (r := 121) X hW dX0_copyFrom_54 (zc_s121 hS) rfl rfl (zi_vp (by decide)) (fun H locs hW => ?_)
  obtain ⟨g_5, hg_5⟩ : ∃ z : zm_T, z = zm_w g_3 121 0 (u 7 18) := ⟨_, rfl⟩
  have hW : zw_St Y N0 ad sh g_5 s H locs := by rw [hg_5]; exact hW
  obtain ⟨u_6, hu_6⟩ : ∃ z : zm_T, z = zm_w u_4 7 0 (u 7 18) := ⟨_, rfl⟩
  have hN : zc_N g_5 u_6 := by rw [hg_5, hu_6]; exact zc_Nw hN rfl _
  refine lv_iinc (v := 1) (lv' := [(3, .int 1), (2, .int 0), (0, .ref (ad 103)), (1, .ref (ad 104))]) X.1 X.2.1 dX0_copyFrom_55 hl (k := 0) rfl (by decide) (by decide) rfl (fun ls hl => ?_)
  refine lv_goto (tgt := 34) X.1 X.2.1 dX0_copyFrom_58 (by decide) ?_
  refine lv_iload_n X.1 X.2.1 dX0_copyFrom_34 rfl (lv_at hl 0 rfl) ?_
  refine lv_iconst (v := 3) X.1 X.2.1 dX0_copyFrom_35 (by decide) ?_
  refine zr_icmp_ge (a := 1) (b := 3) (tgt := 61) X dX0_copyFrom_36 (by decide) (by decide) (by decide) (fun c9 => absurd c9 (by decide)) (fun _ => ?_)
  refine lv_aload_n X.1 X.2.1 dX0_copyFrom_39 rfl (lv_at hl 2 rfl) ?_
  refine zr_get (r := 103) (v := .ref (ad 111)) X hW fs_X0_20_0 dX0_copyFrom_40 (zc_s103 hS) rfl rfl rfl ?_
  refine lv_iload_n X.1 X.2.1 dX0_copyFrom_43 rfl (lv_at hl 1 rfl) ?_
  refine zr_aald (r := 111) (v := .ref (ad 121)) X hW dX0_copyFrom_44 (zc_s111 hS) rfl rfl rfl (zi_vp (by decide)) rfl ?_
  refine lv_iload_n X.1 X.2.1 dX0_copyFrom_45 rfl (lv_at hl 0 rfl) ?_
  refine lv_aload_n X.1 X.2.1 dX0_copyFrom_46 rfl (lv_at hl 3 rfl) ?_
  refine zr_get (r := 104) (v := .ref (ad 114)) X hW fs_X0_20_0 dX0_copyFrom_47 (zc_s104 hS) rfl rfl rfl ?_
  refine lv_iload_n X.1 X.2.1 dX0_copyFrom_50 rfl (lv_at hl 1 rfl) ?_
  refine zr_aald (r := 114) (v := .ref (ad 127)) X hW dX0_copyFrom_51 (zc_s114 hS) rfl rfl rfl (zi_vp (by decide)) rfl ?_
  refine lv_iload_n X.1 X.2.1 dX0_copyFrom_52 rfl (lv_at hl 0 rfl) ?_
  refine zr_iald (r := 127) (v := u 7 19) X hW dX0_copyFrom_53 (zc_s127 hS) rfl rfl (zi_vp (by decide)) ((show g_5 127 (1 : Int32).toNatClampNeg = g_5 127 1 from rfl).trans ((show g_5 127 1 = g_3 127 1 from (by rw [hg_5]; rfl)).trans ((show g_3 127 1 = g_1 127 1 from (by rw [hg_3]; rfl)).trans ((show g_1 127 1 = g 127 1 from (by rw [hg_1]; rfl)).trans (hN0 _ _ _ _ rfl))))) ?_
  refine zr_iast (r := 121) X hW dX0_copyFrom_54 (zc_s121 hS) rfl rfl (zi_vp (by decide)) (fun H locs hW => ?_)
  obtain ⟨g_7, hg_7⟩ : ∃ z : zm_T, z = zm_w g_5 121 1 (u 7 19) := ⟨_, rfl⟩
  have hW : zw_St Y N0 ad sh g_7 s H locs := by rw [hg_7]; exact hW
  obtain ⟨u_8, hu_8⟩ : ∃ z : zm_T, z = zm_w u_6 7 1 (u 7 19) := ⟨_, rfl⟩
  have hN : zc_N g_7 u_8 := by rw [hg_7, hu_8]; exact zc_Nw hN rfl _
  refine lv_iinc (v := 2) (lv' := [(3, .int 2), (2, .int 0), (0, .ref (ad 103)), (1, .ref (ad 104))]) X.1 X.2.1 dX0_copyFrom_55 hl (k := 0) rfl (by decide) (by decide) rfl (fun ls hl => ?_)
  refine lv_goto (tgt := 34) X.1 X.2.1 dX0_copyFrom_58 (by decide) ?_
  refine lv_iload_n X.1 X.2.1 dX0_copyFrom_34 rfl (lv_at hl 0 rfl) ?_
  refine lv_iconst (v := 3) X.1 X.2.1 dX0_copyFrom_35 (by decide) ?_
  refine zr_icmp_ge (a := 2) (b := 3) (tgt := 61) X dX0_copyFrom_36 (by decide) (by decide) (by decide) (fun c9 => absurd c9 (by decide)) (fun _ => ?_)
  refine lv_aload_n X.1 X.2.1 dX0_copyFrom_39 rfl (lv_at hl 2 rfl) ?_
  refine zr_get (r := 103) (v := .ref (ad 111)) X hW fs_X0_20_0 dX0_copyFrom_40 (zc_s103 hS) rfl rfl rfl ?_
  refine lv_iload_n X.1 X.2.1 dX0_copyFrom_43 rfl (lv_at hl 1 rfl) ?_
  refine zr_aald (r := 111) (v := .ref (ad 121)) X hW dX0_copyFrom_44 (zc_s111 hS) rfl rfl rfl (zi_vp (by decide)) rfl ?_
  refine lv_iload_n X.1 X.2.1 dX0_copyFrom_45 rfl (lv_at hl 0 rfl) ?_
  refine lv_aload_n X.1 X.2.1 dX0_copyFrom_46 rfl (lv_at hl 3 rfl) ?_
  refine zr_get (r := 104) (v := .ref (ad 114)) X hW fs_X0_20_0 dX0_copyFrom_47 (zc_s104 hS) rfl rfl rfl ?_
  refine lv_iload_n X.1 X.2.1 dX0_copyFrom_50 rfl (lv_at hl 1 rfl) ?_
  refine zr_aald (r := 114) (v := .ref (ad 127)) X hW dX0_copyFrom_51 (zc_s114 hS) rfl rfl rfl (zi_vp (by decide)) rfl ?_
  refine lv_iload_n X.1 X.2.1 dX0_copyFrom_52 rfl (lv_at hl 0 rfl) ?_
  refine zr_iald (r := 127) (v := u 7 20) X hW dX0_copyFrom_53 (zc_s127 hS) rfl rfl (zi_vp (by decide)) ((show g_7 127 (2 : Int32).toNatClampNeg = g_7 127 2 from rfl).trans ((show g_7 127 2 = g_5 127 2 from (by rw [hg_7]; rfl)).trans ((show g_5 127 2 = g_3 127 2 from (by rw [hg_5]; rfl)).trans ((show g_3 127 2 = g_1 127 2 from (by rw [hg_3]; rfl)).trans ((show g_1 127 2 = g 127 2 from (by rw [hg_1]; rfl)).trans (hN0 _ _ _ _ rfl)))))) ?_
  refine zr_iast (r := 121) X hW dX0_copyFrom_54 (zc_s121 hS) rfl rfl (zi_vp (by decide)) (fun H locs hW => ?_)
  obtain ⟨g_9, hg_9⟩ : ∃ z : zm_T, z = zm_w g_7 121 2 (u 7 20) := ⟨_, rfl⟩
  have hW : zw_St Y N0 ad sh g_9 s H locs := by rw [hg_9]; exact hW
  obtain ⟨u_10, hu_10⟩ : ∃ z : zm_T, z = zm_w u_8 7 2 (u 7 20) := ⟨_, rfl⟩
  have hN : zc_N g_9 u_10 := by rw [hg_9, hu_10]; exact zc_Nw hN rfl _
  refine lv_iinc (v := 3) (lv' := [(3, .int 3), (2, .int 0), (0, .ref (ad 103)), (1, .ref (ad 104))]) X.1 X.2.1 dX0_copyFrom_55 hl (k := 0) rfl (by decide) (by decide) rfl (fun ls hl => ?_)
  refine lv_goto (tgt := 34) X.1 X.2.1 dX0_copyFrom_58 (by decide) ?_
  refine lv_iload_n X.1 X.2.1 dX0_copyFrom_34 rfl (lv_at hl 0 rfl) ?_
  refine lv_iconst (v := 3) X.1 X.2.1 dX0_copyFrom_35 (by decide) ?_
  refine zr_icmp_ge (a := 3) (b := 3) (tgt := 61) X dX0_copyFrom_36 (by decide) (by decide) (by decide) (fun _ => ?_) (fun c9 => absurd c9 (by decide))
  refine lv_iinc (v := 1) (lv' := [(2, .int 1), (3, .int 3), (0, .ref (ad 103)), (1, .ref (ad 104))]) X.1 X.2.1 dX0_copyFrom_61 hl (k := 1) rfl (by decide) (by decide) rfl (fun ls hl => ?_)
  refine lv_goto (tgt := 2) X.1 X.2.1 dX0_copyFrom_64 (by decide) ?_
  refine lv_iload_n X.1 X.2.1 dX0_copyFrom_2 rfl (lv_at hl 0 rfl) ?_
  refine lv_bipush (v := 6) X.1 X.2.1 dX0_copyFrom_3 (by decide) ?_
  refine zr_icmp_ge (a := 1) (b := 6) (tgt := 67) X dX0_copyFrom_5 (by decide) (by decide) (by decide) (fun c9 => absurd c9 (by decide)) (fun _ => ?_)
  refine lv_aload_n X.1 X.2.1 dX0_copyFrom_8 rfl (lv_at hl 2 rfl) ?_
  refine zr_get (r := 103) (v := .ref (ad 109)) X hW fs_X0_9_0 dX0_copyFrom_9 (zc_s103 hS) rfl rfl rfl ?_
  refine lv_iload_n X.1 X.2.1 dX0_copyFrom_12 rfl (lv_at hl 0 rfl) ?_
  refine lv_aload_n X.1 X.2.1 dX0_copyFrom_13 rfl (lv_at hl 3 rfl) ?_
  refine zr_get (r := 104) (v := .ref (ad 112)) X hW fs_X0_9_0 dX0_copyFrom_14 (zc_s104 hS) rfl rfl rfl ?_
  refine lv_iload_n X.1 X.2.1 dX0_copyFrom_17 rfl (lv_at hl 0 rfl) ?_
  refine zr_iald (r := 112) (v := u 5 7) X hW dX0_copyFrom_18 (zc_s112 hS) rfl rfl (zi_vp (by decide)) ((show g_9 112 (1 : Int32).toNatClampNeg = g_9 112 1 from rfl).trans ((show g_9 112 1 = g_7 112 1 from (by rw [hg_9]; rfl)).trans ((show g_7 112 1 = g_5 112 1 from (by rw [hg_7]; rfl)).trans ((show g_5 112 1 = g_3 112 1 from (by rw [hg_5]; rfl)).trans ((show g_3 112 1 = g_1 112 1 from (by rw [hg_3]; rfl)).trans ((show g_1 112 1 = g 112 1 from (by rw [hg_1]; rfl)).trans (hN0 _ _ _ _ rfl))))))) ?_
  refine zr_iast (r := 109) X hW dX0_copyFrom_19 (zc_s109 hS) rfl rfl (zi_vp (by decide)) (fun H locs hW => ?_)
  obtain ⟨g_11, hg_11⟩ : ∃ z : zm_T, z = zm_w g_9 109 1 (u 5 7) := ⟨_, rfl⟩
  have hW : zw_St Y N0 ad sh g_11 s H locs := by rw [hg_11]; exact hW
  obtain ⟨u_12, hu_12⟩ : ∃ z : zm_T, z = zm_w u_10 5 1 (u 5 7) := ⟨_, rfl⟩
  have hN : zc_N g_11 u_12 := by rw [hg_11, hu_12]; exact zc_Nw hN rfl _
  refine lv_aload_n X.1 X.2.1 dX0_copyFrom_20 rfl (lv_at hl 2 rfl) ?_
  refine zr_get (r := 103) (v := .ref (ad 110)) X hW fs_X0_15_0 dX0_copyFrom_21 (zc_s103 hS) rfl rfl rfl ?_
  refine lv_iload_n X.1 X.2.1 dX0_copyFrom_24 rfl (lv_at hl 0 rfl) ?_
  refine lv_aload_n X.1 X.2.1 dX0_copyFrom_25 rfl (lv_at hl 3 rfl) ?_
  refine zr_get (r := 104) (v := .ref (ad 113)) X hW fs_X0_15_0 dX0_copyFrom_26 (zc_s104 hS) rfl rfl rfl ?_
  refine lv_iload_n X.1 X.2.1 dX0_copyFrom_29 rfl (lv_at hl 0 rfl) ?_
  refine zr_iald (r := 113) (v := u 6 7) X hW dX0_copyFrom_30 (zc_s113 hS) rfl rfl (zi_vp (by decide)) ((show g_11 113 (1 : Int32).toNatClampNeg = g_11 113 1 from rfl).trans ((show g_11 113 1 = g_9 113 1 from (by rw [hg_11]; rfl)).trans ((show g_9 113 1 = g_7 113 1 from (by rw [hg_9]; rfl)).trans ((show g_7 113 1 = g_5 113 1 from (by rw [hg_7]; rfl)).trans ((show g_5 113 1 = g_3 113 1 from (by rw [hg_5]; rfl)).trans ((show g_3 113 1 = g_1 113 1 from (by rw [hg_3]; rfl)).trans ((show g_1 113 1 = g 113 1 from (by rw [hg_1]; rfl)).trans (hN0 _ _ _ _ rfl)))))))) ?_
  refine zr_iast (r := 110) X hW dX0_copyFrom_31 (zc_s110 hS) rfl rfl (zi_vp (by decide)) (fun H locs hW => ?_)
  obtain ⟨g_13, hg_13⟩ : ∃ z : zm_T, z = zm_w g_11 110 1 (u 6 7) := ⟨_, rfl⟩
  have hW : zw_St Y N0 ad sh g_13 s H locs := by rw [hg_13]; exact hW
  obtain ⟨u_14, hu_14⟩ : ∃ z : zm_T, z = zm_w u_12 6 1 (u 6 7) := ⟨_, rfl⟩
  have hN : zc_N g_13 u_14 := by rw [hg_13, hu_14]; exact zc_Nw hN rfl _
  refine lv_iconst (v := 0) X.1 X.2.1 dX0_copyFrom_32 (by decide) ?_
  refine lv_istore_n (lv' := [(3, .int 0), (2, .int 1), (0, .ref (ad 103)), (1, .ref (ad 104))]) X.1 X.2.1 dX0_copyFrom_33 rfl hl (by decide) rfl (fun ls hl => ?_)
  refine lv_iload_n X.1 X.2.1 dX0_copyFrom_34 rfl (lv_at hl 0 rfl) ?_
  refine lv_iconst (v := 3) X.1 X.2.1 dX0_copyFrom_35 (by decide) ?_
  refine zr_icmp_ge (a := 0) (b := 3) (tgt := 61) X dX0_copyFrom_36 (by decide) (by decide) (by decide) (fun c9 => absurd c9 (by decide)) (fun _ => ?_)
  refine lv_aload_n X.1 X.2.1 dX0_copyFrom_39 rfl (lv_at hl 2 rfl) ?_
  refine zr_get (r := 103) (v := .ref (ad 111)) X hW fs_X0_20_0 dX0_copyFrom_40 (zc_s103 hS) rfl rfl rfl ?_
  refine lv_iload_n X.1 X.2.1 dX0_copyFrom_43 rfl (lv_at hl 1 rfl) ?_
  refine zr_aald (r := 111) (v := .ref (ad 122)) X hW dX0_copyFrom_44 (zc_s111 hS) rfl rfl rfl (zi_vp (by decide)) rfl ?_
  refine lv_iload_n X.1 X.2.1 dX0_copyFrom_45 rfl (lv_at hl 0 rfl) ?_
  refine lv_aload_n X.1 X.2.1 dX0_copyFrom_46 rfl (lv_at hl 3 rfl) ?_
  refine zr_get (r := 104) (v := .ref (ad 114)) X hW fs_X0_20_0 dX0_copyFrom_47 (zc_s104 hS) rfl rfl rfl ?_
  refine lv_iload_n X.1 X.2.1 dX0_copyFrom_50 rfl (lv_at hl 1 rfl) ?_
  refine zr_aald (r := 114) (v := .ref (ad 128)) X hW dX0_copyFrom_51 (zc_s114 hS) rfl rfl rfl (zi_vp (by decide)) rfl ?_
  refine lv_iload_n X.1 X.2.1 dX0_copyFrom_52 rfl (lv_at hl 0 rfl) ?_
  refine zr_iald (r := 128) (v := u 7 21) X hW dX0_copyFrom_53 (zc_s128 hS) rfl rfl (zi_vp (by decide)) ((show g_13 128 (0 : Int32).toNatClampNeg = g_13 128 0 from rfl).trans ((show g_13 128 0 = g_11 128 0 from (by rw [hg_13]; rfl)).trans ((show g_11 128 0 = g_9 128 0 from (by rw [hg_11]; rfl)).trans ((show g_9 128 0 = g_7 128 0 from (by rw [hg_9]; rfl)).trans ((show g_7 128 0 = g_5 128 0 from (by rw [hg_7]; rfl)).trans ((show g_5 128 0 = g_3 128 0 from (by rw [hg_5]; rfl)).trans ((show g_3 128 0 = g_1 128 0 from (by rw [hg_3]; rfl)).trans ((show g_1 128 0 = g 128 0 from (by rw [hg_1]; rfl)).trans (hN0 _ _ _ _ rfl))))))))) ?_
  refine zr_iast (r := 122) X hW dX0_copyFrom_54 (zc_s122 hS) rfl rfl (zi_vp (by decide)) (fun H locs hW => ?_)
  obtain ⟨g_15, hg_15⟩ : ∃ z : zm_T, z = zm_w g_13 122 0 (u 7 21) := ⟨_, rfl⟩
  have hW : zw_St Y N0 ad sh g_15 s H locs := by rw [hg_15]; exact hW
  obtain ⟨u_16, hu_16⟩ : ∃ z : zm_T, z = zm_w u_14 7 3 (u 7 21) := ⟨_, rfl⟩
  have hN : zc_N g_15 u_16 := by rw [hg_15, hu_16]; exact zc_Nw hN rfl _
  refine lv_iinc (v := 1) (lv' := [(3, .int 1), (2, .int 1), (0, .ref (ad 103)), (1, .ref (ad 104))]) X.1 X.2.1 dX0_copyFrom_55 hl (k := 0) rfl (by decide) (by decide) rfl (fun ls hl => ?_)
  refine lv_goto (tgt := 34) X.1 X.2.1 dX0_copyFrom_58 (by decide) ?_
  refine lv_iload_n X.1 X.2.1 dX0_copyFrom_34 rfl (lv_at hl 0 rfl) ?_
  refine lv_iconst (v := 3) X.1 X.2.1 dX0_copyFrom_35 (by decide) ?_
  refine zr_icmp_ge (a := 1) (b := 3) (tgt := 61) X dX0_copyFrom_36 (by decide) (by decide) (by decide) (fun c9 => absurd c9 (by decide)) (fun _ => ?_)
  refine lv_aload_n X.1 X.2.1 dX0_copyFrom_39 rfl (lv_at hl 2 rfl) ?_
  refine zr_get (r := 103) (v := .ref (ad 111)) X hW fs_X0_20_0 dX0_copyFrom_40 (zc_s103 hS) rfl rfl rfl ?_
  refine lv_iload_n X.1 X.2.1 dX0_copyFrom_43 rfl (lv_at hl 1 rfl) ?_
  refine zr_aald (r := 111) (v := .ref (ad 122)) X hW dX0_copyFrom_44 (zc_s111 hS) rfl rfl rfl (zi_vp (by decide)) rfl ?_
  refine lv_iload_n X.1 X.2.1 dX0_copyFrom_45 rfl (lv_at hl 0 rfl) ?_
  refine lv_aload_n X.1 X.2.1 dX0_copyFrom_46 rfl (lv_at hl 3 rfl) ?_
  refine zr_get (r := 104) (v := .ref (ad 114)) X hW fs_X0_20_0 dX0_copyFrom_47 (zc_s104 hS) rfl rfl rfl ?_
  refine lv_iload_n X.1 X.2.1 dX0_copyFrom_50 rfl (lv_at hl 1 rfl) ?_
  refine zr_aald (r := 114) (v := .ref (ad 128)) X hW dX0_copyFrom_51 (zc_s114 hS) rfl rfl rfl (zi_vp (by decide)) rfl ?_
  refine lv_iload_n X.1 X.2.1 dX0_copyFrom_52 rfl (lv_at hl 0 rfl) ?_
  refine zr_iald (r := 128) (v := u 7 22) X hW dX0_copyFrom_53 (zc_s128 hS) rfl rfl (zi_vp (by decide)) ((show g_15 128 (1 : Int32).toNatClampNeg = g_15 128 1 from rfl).trans ((show g_15 128 1 = g_13 128 1 from (by rw [hg_15]; rfl)).trans ((show g_13 128 1 = g_11 128 1 from (by rw [hg_13]; rfl)).trans ((show g_11 128 1 = g_9 128 1 from (by rw [hg_11]; rfl)).trans ((show g_9 128 1 = g_7 128 1 from (by rw [hg_9]; rfl)).trans ((show g_7 128 1 = g_5 128 1 from (by rw [hg_7]; rfl)).trans ((show g_5 128 1 = g_3 128 1 from (by rw [hg_5]; rfl)).trans ((show g_3 128 1 = g_1 128 1 from (by rw [hg_3]; rfl)).trans ((show g_1 128 1 = g 128 1 from (by rw [hg_1]; rfl)).trans (hN0 _ _ _ _ rfl)))))))))) ?_
  refine zr_iast (r := 122) X hW dX0_copyFrom_54 (zc_s122 hS) rfl rfl (zi_vp (by decide)) (fun H locs hW => ?_)
  obtain ⟨g_17, hg_17⟩ : ∃ z : zm_T, z = zm_w g_15 122 1 (u 7 22) := ⟨_, rfl⟩
  have hW : zw_St Y N0 ad sh g_17 s H locs := by rw [hg_17]; exact hW
  obtain ⟨u_18, hu_18⟩ : ∃ z : zm_T, z = zm_w u_16 7 4 (u 7 22) := ⟨_, rfl⟩
  have hN : zc_N g_17 u_18 := by rw [hg_17, hu_18]; exact zc_Nw hN rfl _
  refine lv_iinc (v := 2) (lv' := [(3, .int 2), (2, .int 1), (0, .ref (ad 103)), (1, .ref (ad 104))]) X.1 X.2.1 dX0_copyFrom_55 hl (k := 0) rfl (by decide) (by decide) rfl (fun ls hl => ?_)
  refine lv_goto (tgt := 34) X.1 X.2.1 dX0_copyFrom_58 (by decide) ?_
  refine lv_iload_n X.1 X.2.1 dX0_copyFrom_34 rfl (lv_at hl 0 rfl) ?_
  refine lv_iconst (v := 3) X.1 X.2.1 dX0_copyFrom_35 (by decide) ?_
  refine zr_icmp_ge (a := 2) (b := 3) (tgt := 61) X dX0_copyFrom_36 (by decide) (by decide) (by decide) (fun c9 => absurd c9 (by decide)) (fun _ => ?_)
  refine lv_aload_n X.1 X.2.1 dX0_copyFrom_39 rfl (lv_at hl 2 rfl) ?_
  refine zr_get (r := 103) (v := .ref (ad 111)) X hW fs_X0_20_0 dX0_copyFrom_40 (zc_s103 hS) rfl rfl rfl ?_
  refine lv_iload_n X.1 X.2.1 dX0_copyFrom_43 rfl (lv_at hl 1 rfl) ?_
  refine zr_aald (r := 111) (v := .ref (ad 122)) X hW dX0_copyFrom_44 (zc_s111 hS) rfl rfl rfl (zi_vp (by decide)) rfl ?_
  refine lv_iload_n X.1 X.2.1 dX0_copyFrom_45 rfl (lv_at hl 0 rfl) ?_
  refine lv_aload_n X.1 X.2.1 dX0_copyFrom_46 rfl (lv_at hl 3 rfl) ?_
  refine zr_get (r := 104) (v := .ref (ad 114)) X hW fs_X0_20_0 dX0_copyFrom_47 (zc_s104 hS) rfl rfl rfl ?_
  refine lv_iload_n X.1 X.2.1 dX0_copyFrom_50 rfl (lv_at hl 1 rfl) ?_
  refine zr_aald (r := 114) (v := .ref (ad 128)) X hW dX0_copyFrom_51 (zc_s114 hS) rfl rfl rfl (zi_vp (by decide)) rfl ?_
  refine lv_iload_n X.1 X.2.1 dX0_copyFrom_52 rfl (lv_at hl 0 rfl) ?_
  refine zr_iald (r := 128) (v := u 7 23) X hW dX0_copyFrom_53 (zc_s128 hS) rfl rfl (zi_vp (by decide)) ((show g_17 128 (2 : Int32).toNatClampNeg = g_17 128 2 from rfl).trans ((show g_17 128 2 = g_15 128 2 from (by rw [hg_17]; rfl)).trans ((show g_15 128 2 = g_13 128 2 from (by rw [hg_15]; rfl)).trans ((show g_13 128 2 = g_11 128 2 from (by rw [hg_13]; rfl)).trans ((show g_11 128 2 = g_9 128 2 from (by rw [hg_11]; rfl)).trans ((show g_9 128 2 = g_7 128 2 from (by rw [hg_9]; rfl)).trans ((show g_7 128 2 = g_5 128 2 from (by rw [hg_7]; rfl)).trans ((show g_5 128 2 = g_3 128 2 from (by rw [hg_5]; rfl)).trans ((show g_3 128 2 = g_1 128 2 from (by rw [hg_3]; rfl)).trans ((show g_1 128 2 = g 128 2 from (by rw [hg_1]; rfl)).trans (hN0 _ _ _ _ rfl))))))))))) ?_
  refine zr_iast (r := 122) X hW dX0_copyFrom_54 (zc_s122 hS) rfl rfl (zi_vp (by decide)) (fun H locs hW => ?_)
  obtain ⟨g_19, hg_19⟩ : ∃ z : zm_T, z = zm_w g_17 122 2 (u 7 23) := ⟨_, rfl⟩
  have hW : zw_St Y N0 ad sh g_19 s H locs := by rw [hg_19]; exact hW
  obtain ⟨u_20, hu_20⟩ : ∃ z : zm_T, z = zm_w u_18 7 5 (u 7 23) := ⟨_, rfl⟩
  have hN : zc_N g_19 u_20 := by rw [hg_19, hu_20]; exact zc_Nw hN rfl _
  refine lv_iinc (v := 3) (lv' := [(3, .int 3), (2, .int 1), (0, .ref (ad 103)), (1, .ref (ad 104))]) X.1 X.2.1 dX0_copyFrom_55 hl (k := 0) rfl (by decide) (by decide) rfl (fun ls hl => ?_)
  refine lv_goto (tgt := 34) X.1 X.2.1 dX0_copyFrom_58 (by decide) ?_
  refine lv_iload_n X.1 X.2.1 dX0_copyFrom_34 rfl (lv_at hl 0 rfl) ?_
  refine lv_iconst (v := 3) X.1 X.2.1 dX0_copyFrom_35 (by decide) ?_
  refine zr_icmp_ge (a := 3) (b := 3) (tgt := 61) X dX0_copyFrom_36 (by decide) (by decide) (by decide) (fun _ => ?_) (fun c9 => absurd c9 (by decide))
  refine lv_iinc (v := 2) (lv' := [(2, .int 2), (3, .int 3), (0, .ref (ad 103)), (1, .ref (ad 104))]) X.1 X.2.1 dX0_copyFrom_61 hl (k := 1) rfl (by decide) (by decide) rfl (fun ls hl => ?_)
  refine lv_goto (tgt := 2) X.1 X.2.1 dX0_copyFrom_64 (by decide) ?_
  refine lv_iload_n X.1 X.2.1 dX0_copyFrom_2 rfl (lv_at hl 0 rfl) ?_
  refine lv_bipush (v := 6) X.1 X.2.1 dX0_copyFrom_3 (by decide) ?_
  refine zr_icmp_ge (a := 2) (b := 6) (tgt := 67) X dX0_copyFrom_5 (by decide) (by decide) (by decide) (fun c9 => absurd c9 (by decide)) (fun _ => ?_)
  refine lv_aload_n X.1 X.2.1 dX0_copyFrom_8 rfl (lv_at hl 2 rfl) ?_
  refine zr_get (r := 103) (v := .ref (ad 109)) X hW fs_X0_9_0 dX0_copyFrom_9 (zc_s103 hS) rfl rfl rfl ?_
  refine lv_iload_n X.1 X.2.1 dX0_copyFrom_12 rfl (lv_at hl 0 rfl) ?_
  refine lv_aload_n X.1 X.2.1 dX0_copyFrom_13 rfl (lv_at hl 3 rfl) ?_
  refine zr_get (r := 104) (v := .ref (ad 112)) X hW fs_X0_9_0 dX0_copyFrom_14 (zc_s104 hS) rfl rfl rfl ?_
  refine lv_iload_n X.1 X.2.1 dX0_copyFrom_17 rfl (lv_at hl 0 rfl) ?_
  refine zr_iald (r := 112) (v := u 5 8) X hW dX0_copyFrom_18 (zc_s112 hS) rfl rfl (zi_vp (by decide)) ((show g_19 112 (2 : Int32).toNatClampNeg = g_19 112 2 from rfl).trans ((show g_19 112 2 = g_17 112 2 from (by rw [hg_19]; rfl)).trans ((show g_17 112 2 = g_15 112 2 from (by rw [hg_17]; rfl)).trans ((show g_15 112 2 = g_13 112 2 from (by rw [hg_15]; rfl)).trans ((show g_13 112 2 = g_11 112 2 from (by rw [hg_13]; rfl)).trans ((show g_11 112 2 = g_9 112 2 from (by rw [hg_11]; rfl)).trans ((show g_9 112 2 = g_7 112 2 from (by rw [hg_9]; rfl)).trans ((show g_7 112 2 = g_5 112 2 from (by rw [hg_7]; rfl)).trans ((show g_5 112 2 = g_3 112 2 from (by rw [hg_5]; rfl)).trans ((show g_3 112 2 = g_1 112 2 from (by rw [hg_3]; rfl)).trans ((show g_1 112 2 = g 112 2 from (by rw [hg_1]; rfl)).trans (hN0 _ _ _ _ rfl)))))))))))) ?_
  refine zr_iast (r := 109) X hW dX0_copyFrom_19 (zc_s109 hS) rfl rfl (zi_vp (by decide)) (fun H locs hW => ?_)
  obtain ⟨g_21, hg_21⟩ : ∃ z : zm_T, z = zm_w g_19 109 2 (u 5 8) := ⟨_, rfl⟩
  have hW : zw_St Y N0 ad sh g_21 s H locs := by rw [hg_21]; exact hW
  obtain ⟨u_22, hu_22⟩ : ∃ z : zm_T, z = zm_w u_20 5 2 (u 5 8) := ⟨_, rfl⟩
  have hN : zc_N g_21 u_22 := by rw [hg_21, hu_22]; exact zc_Nw hN rfl _
  refine lv_aload_n X.1 X.2.1 dX0_copyFrom_20 rfl (lv_at hl 2 rfl) ?_
  refine zr_get (r := 103) (v := .ref (ad 110)) X hW fs_X0_15_0 dX0_copyFrom_21 (zc_s103 hS) rfl rfl rfl ?_
  refine lv_iload_n X.1 X.2.1 dX0_copyFrom_24 rfl (lv_at hl 0 rfl) ?_
  refine lv_aload_n X.1 X.2.1 dX0_copyFrom_25 rfl (lv_at hl 3 rfl) ?_
  refine zr_get (r := 104) (v := .ref (ad 113)) X hW fs_X0_15_0 dX0_copyFrom_26 (zc_s104 hS) rfl rfl rfl ?_
  refine lv_iload_n X.1 X.2.1 dX0_copyFrom_29 rfl (lv_at hl 0 rfl) ?_
  refine zr_iald (r := 113) (v := u 6 8) X hW dX0_copyFrom_30 (zc_s113 hS) rfl rfl (zi_vp (by decide)) ((show g_21 113 (2 : Int32).toNatClampNeg = g_21 113 2 from rfl).trans ((show g_21 113 2 = g_19 113 2 from (by rw [hg_21]; rfl)).trans ((show g_19 113 2 = g_17 113 2 from (by rw [hg_19]; rfl)).trans ((show g_17 113 2 = g_15 113 2 from (by rw [hg_17]; rfl)).trans ((show g_15 113 2 = g_13 113 2 from (by rw [hg_15]; rfl)).trans ((show g_13 113 2 = g_11 113 2 from (by rw [hg_13]; rfl)).trans ((show g_11 113 2 = g_9 113 2 from (by rw [hg_11]; rfl)).trans ((show g_9 113 2 = g_7 113 2 from (by rw [hg_9]; rfl)).trans ((show g_7 113 2 = g_5 113 2 from (by rw [hg_7]; rfl)).trans ((show g_5 113 2 = g_3 113 2 from (by rw [hg_5]; rfl)).trans ((show g_3 113 2 = g_1 113 2 from (by rw [hg_3]; rfl)).trans ((show g_1 113 2 = g 113 2 from (by rw [hg_1]; rfl)).trans (hN0 _ _ _ _ rfl))))))))))))) ?_
  refine zr_iast (r := 110) X hW dX0_copyFrom_31 (zc_s110 hS) rfl rfl (zi_vp (by decide)) (fun H locs hW => ?_)
  obtain ⟨g_23, hg_23⟩ : ∃ z : zm_T, z = zm_w g_21 110 2 (u 6 8) := ⟨_, rfl⟩
  have hW : zw_St Y N0 ad sh g_23 s H locs := by rw [hg_23]; exact hW
  obtain ⟨u_24, hu_24⟩ : ∃ z : zm_T, z = zm_w u_22 6 2 (u 6 8) := ⟨_, rfl⟩
  have hN : zc_N g_23 u_24 := by rw [hg_23, hu_24]; exact zc_Nw hN rfl _
  refine lv_iconst (v := 0) X.1 X.2.1 dX0_copyFrom_32 (by decide) ?_
  refine lv_istore_n (lv' := [(3, .int 0), (2, .int 2), (0, .ref (ad 103)), (1, .ref (ad 104))]) X.1 X.2.1 dX0_copyFrom_33 rfl hl (by decide) rfl (fun ls hl => ?_)
  refine lv_iload_n X.1 X.2.1 dX0_copyFrom_34 rfl (lv_at hl 0 rfl) ?_
  refine lv_iconst (v := 3) X.1 X.2.1 dX0_copyFrom_35 (by decide) ?_
  refine zr_icmp_ge (a := 0) (b := 3) (tgt := 61) X dX0_copyFrom_36 (by decide) (by decide) (by decide) (fun c9 => absurd c9 (by decide)) (fun _ => ?_)
  refine lv_aload_n X.1 X.2.1 dX0_copyFrom_39 rfl (lv_at hl 2 rfl) ?_
  refine zr_get (r := 103) (v := .ref (ad 111)) X hW fs_X0_20_0 dX0_copyFrom_40 (zc_s103 hS) rfl rfl rfl ?_
  refine lv_iload_n X.1 X.2.1 dX0_copyFrom_43 rfl (lv_at hl 1 rfl) ?_
  refine zr_aald (r := 111) (v := .ref (ad 123)) X hW dX0_copyFrom_44 (zc_s111 hS) rfl rfl rfl (zi_vp (by decide)) rfl ?_
  refine lv_iload_n X.1 X.2.1 dX0_copyFrom_45 rfl (lv_at hl 0 rfl) ?_
  refine lv_aload_n X.1 X.2.1 dX0_copyFrom_46 rfl (lv_at hl 3 rfl) ?_
  refine zr_get (r := 104) (v := .ref (ad 114)) X hW fs_X0_20_0 dX0_copyFrom_47 (zc_s104 hS) rfl rfl rfl ?_
  refine lv_iload_n X.1 X.2.1 dX0_copyFrom_50 rfl (lv_at hl 1 rfl) ?_
  refine zr_aald (r := 114) (v := .ref (ad 129)) X hW dX0_copyFrom_51 (zc_s114 hS) rfl rfl rfl (zi_vp (by decide)) rfl ?_
  refine lv_iload_n X.1 X.2.1 dX0_copyFrom_52 rfl (lv_at hl 0 rfl) ?_
  refine zr_iald (r := 129) (v := u 7 24) X hW dX0_copyFrom_53 (zc_s129 hS) rfl rfl (zi_vp (by decide)) ((show g_23 129 (0 : Int32).toNatClampNeg = g_23 129 0 from rfl).trans ((show g_23 129 0 = g_21 129 0 from (by rw [hg_23]; rfl)).trans ((show g_21 129 0 = g_19 129 0 from (by rw [hg_21]; rfl)).trans ((show g_19 129 0 = g_17 129 0 from (by rw [hg_19]; rfl)).trans ((show g_17 129 0 = g_15 129 0 from (by rw [hg_17]; rfl)).trans ((show g_15 129 0 = g_13 129 0 from (by rw [hg_15]; rfl)).trans ((show g_13 129 0 = g_11 129 0 from (by rw [hg_13]; rfl)).trans ((show g_11 129 0 = g_9 129 0 from (by rw [hg_11]; rfl)).trans ((show g_9 129 0 = g_7 129 0 from (by rw [hg_9]; rfl)).trans ((show g_7 129 0 = g_5 129 0 from (by rw [hg_7]; rfl)).trans ((show g_5 129 0 = g_3 129 0 from (by rw [hg_5]; rfl)).trans ((show g_3 129 0 = g_1 129 0 from (by rw [hg_3]; rfl)).trans ((show g_1 129 0 = g 129 0 from (by rw [hg_1]; rfl)).trans (hN0 _ _ _ _ rfl)))))))))))))) ?_
  refine zr_iast (r := 123) X hW dX0_copyFrom_54 (zc_s123 hS) rfl rfl (zi_vp (by decide)) (fun H locs hW => ?_)
  obtain ⟨g_25, hg_25⟩ : ∃ z : zm_T, z = zm_w g_23 123 0 (u 7 24) := ⟨_, rfl⟩
  have hW : zw_St Y N0 ad sh g_25 s H locs := by rw [hg_25]; exact hW
  obtain ⟨u_26, hu_26⟩ : ∃ z : zm_T, z = zm_w u_24 7 6 (u 7 24) := ⟨_, rfl⟩
  have hN : zc_N g_25 u_26 := by rw [hg_25, hu_26]; exact zc_Nw hN rfl _
  refine lv_iinc (v := 1) (lv' := [(3, .int 1), (2, .int 2), (0, .ref (ad 103)), (1, .ref (ad 104))]) X.1 X.2.1 dX0_copyFrom_55 hl (k := 0) rfl (by decide) (by decide) rfl (fun ls hl => ?_)
  refine lv_goto (tgt := 34) X.1 X.2.1 dX0_copyFrom_58 (by decide) ?_
  refine lv_iload_n X.1 X.2.1 dX0_copyFrom_34 rfl (lv_at hl 0 rfl) ?_
  refine lv_iconst (v := 3) X.1 X.2.1 dX0_copyFrom_35 (by decide) ?_
  refine zr_icmp_ge (a := 1) (b := 3) (tgt := 61) X dX0_copyFrom_36 (by decide) (by decide) (by decide) (fun c9 => absurd c9 (by decide)) (fun _ => ?_)
  refine lv_aload_n X.1 X.2.1 dX0_copyFrom_39 rfl (lv_at hl 2 rfl) ?_
  refine zr_get (r := 103) (v := .ref (ad 111)) X hW fs_X0_20_0 dX0_copyFrom_40 (zc_s103 hS) rfl rfl rfl ?_
  refine lv_iload_n X.1 X.2.1 dX0_copyFrom_43 rfl (lv_at hl 1 rfl) ?_
  refine zr_aald (r := 111) (v := .ref (ad 123)) X hW dX0_copyFrom_44 (zc_s111 hS) rfl rfl rfl (zi_vp (by decide)) rfl ?_
  refine lv_iload_n X.1 X.2.1 dX0_copyFrom_45 rfl (lv_at hl 0 rfl) ?_
  refine lv_aload_n X.1 X.2.1 dX0_copyFrom_46 rfl (lv_at hl 3 rfl) ?_
  refine zr_get (r := 104) (v := .ref (ad 114)) X hW fs_X0_20_0 dX0_copyFrom_47 (zc_s104 hS) rfl rfl rfl ?_
  refine lv_iload_n X.1 X.2.1 dX0_copyFrom_50 rfl (lv_at hl 1 rfl) ?_
  refine zr_aald (r := 114) (v := .ref (ad 129)) X hW dX0_copyFrom_51 (zc_s114 hS) rfl rfl rfl (zi_vp (by decide)) rfl ?_
  refine lv_iload_n X.1 X.2.1 dX0_copyFrom_52 rfl (lv_at hl 0 rfl) ?_
  refine zr_iald (r := 129) (v := u 7 25) X hW dX0_copyFrom_53 (zc_s129 hS) rfl rfl (zi_vp (by decide)) ((show g_25 129 (1 : Int32).toNatClampNeg = g_25 129 1 from rfl).trans ((show g_25 129 1 = g_23 129 1 from (by rw [hg_25]; rfl)).trans ((show g_23 129 1 = g_21 129 1 from (by rw [hg_23]; rfl)).trans ((show g_21 129 1 = g_19 129 1 from (by rw [hg_21]; rfl)).trans ((show g_19 129 1 = g_17 129 1 from (by rw [hg_19]; rfl)).trans ((show g_17 129 1 = g_15 129 1 from (by rw [hg_17]; rfl)).trans ((show g_15 129 1 = g_13 129 1 from (by rw [hg_15]; rfl)).trans ((show g_13 129 1 = g_11 129 1 from (by rw [hg_13]; rfl)).trans ((show g_11 129 1 = g_9 129 1 from (by rw [hg_11]; rfl)).trans ((show g_9 129 1 = g_7 129 1 from (by rw [hg_9]; rfl)).trans ((show g_7 129 1 = g_5 129 1 from (by rw [hg_7]; rfl)).trans ((show g_5 129 1 = g_3 129 1 from (by rw [hg_5]; rfl)).trans ((show g_3 129 1 = g_1 129 1 from (by rw [hg_3]; rfl)).trans ((show g_1 129 1 = g 129 1 from (by rw [hg_1]; rfl)).trans (hN0 _ _ _ _ rfl))))))))))))))) ?_
  refine zr_iast (r := 123) X hW dX0_copyFrom_54 (zc_s123 hS) rfl rfl (zi_vp (by decide)) (fun H locs hW => ?_)
  obtain ⟨g_27, hg_27⟩ : ∃ z : zm_T, z = zm_w g_25 123 1 (u 7 25) := ⟨_, rfl⟩
  have hW : zw_St Y N0 ad sh g_27 s H locs := by rw [hg_27]; exact hW
  obtain ⟨u_28, hu_28⟩ : ∃ z : zm_T, z = zm_w u_26 7 7 (u 7 25) := ⟨_, rfl⟩
  have hN : zc_N g_27 u_28 := by rw [hg_27, hu_28]; exact zc_Nw hN rfl _
  refine lv_iinc (v := 2) (lv' := [(3, .int 2), (2, .int 2), (0, .ref (ad 103)), (1, .ref (ad 104))]) X.1 X.2.1 dX0_copyFrom_55 hl (k := 0) rfl (by decide) (by decide) rfl (fun ls hl => ?_)
  refine lv_goto (tgt := 34) X.1 X.2.1 dX0_copyFrom_58 (by decide) ?_
  refine lv_iload_n X.1 X.2.1 dX0_copyFrom_34 rfl (lv_at hl 0 rfl) ?_
  refine lv_iconst (v := 3) X.1 X.2.1 dX0_copyFrom_35 (by decide) ?_
  refine zr_icmp_ge (a := 2) (b := 3) (tgt := 61) X dX0_copyFrom_36 (by decide) (by decide) (by decide) (fun c9 => absurd c9 (by decide)) (fun _ => ?_)
  refine lv_aload_n X.1 X.2.1 dX0_copyFrom_39 rfl (lv_at hl 2 rfl) ?_
  refine zr_get (r := 103) (v := .ref (ad 111)) X hW fs_X0_20_0 dX0_copyFrom_40 (zc_s103 hS) rfl rfl rfl ?_
  refine lv_iload_n X.1 X.2.1 dX0_copyFrom_43 rfl (lv_at hl 1 rfl) ?_
  refine zr_aald (r := 111) (v := .ref (ad 123)) X hW dX0_copyFrom_44 (zc_s111 hS) rfl rfl rfl (zi_vp (by decide)) rfl ?_
  refine lv_iload_n X.1 X.2.1 dX0_copyFrom_45 rfl (lv_at hl 0 rfl) ?_
  refine lv_aload_n X.1 X.2.1 dX0_copyFrom_46 rfl (lv_at hl 3 rfl) ?_
  refine zr_get (r := 104) (v := .ref (ad 114)) X hW fs_X0_20_0 dX0_copyFrom_47 (zc_s104 hS) rfl rfl rfl ?_
  refine lv_iload_n X.1 X.2.1 dX0_copyFrom_50 rfl (lv_at hl 1 rfl) ?_
  refine zr_aald (r := 114) (v := .ref (ad 129)) X hW dX0_copyFrom_51 (zc_s114 hS) rfl rfl rfl (zi_vp (by decide)) rfl ?_
  refine lv_iload_n X.1 X.2.1 dX0_copyFrom_52 rfl (lv_at hl 0 rfl) ?_
  refine zr_iald (r := 129) (v := u 7 26) X hW dX0_copyFrom_53 (zc_s129 hS) rfl rfl (zi_vp (by decide)) ((show g_27 129 (2 : Int32).toNatClampNeg = g_27 129 2 from rfl).trans ((show g_27 129 2 = g_25 129 2 from (by rw [hg_27]; rfl)).trans ((show g_25 129 2 = g_23 129 2 from (by rw [hg_25]; rfl)).trans ((show g_23 129 2 = g_21 129 2 from (by rw [hg_23]; rfl)).trans ((show g_21 129 2 = g_19 129 2 from (by rw [hg_21]; rfl)).trans ((show g_19 129 2 = g_17 129 2 from (by rw [hg_19]; rfl)).trans ((show g_17 129 2 = g_15 129 2 from (by rw [hg_17]; rfl)).trans ((show g_15 129 2 = g_13 129 2 from (by rw [hg_15]; rfl)).trans ((show g_13 129 2 = g_11 129 2 from (by rw [hg_13]; rfl)).trans ((show g_11 129 2 = g_9 129 2 from (by rw [hg_11]; rfl)).trans ((show g_9 129 2 = g_7 129 2 from (by rw [hg_9]; rfl)).trans ((show g_7 129 2 = g_5 129 2 from (by rw [hg_7]; rfl)).trans ((show g_5 129 2 = g_3 129 2 from (by rw [hg_5]; rfl)).trans ((show g_3 129 2 = g_1 129 2 from (by rw [hg_3]; rfl)).trans ((show g_1 129 2 = g 129 2 from (by rw [hg_1]; rfl)).trans (hN0 _ _ _ _ rfl)))))))))))))))) ?_
  refine zr_iast (r := 123) X hW dX0_copyFrom_54 (zc_s123 hS) rfl rfl (zi_vp (by decide)) (fun H locs hW => ?_)
  obtain ⟨g_29, hg_29⟩ : ∃ z : zm_T, z = zm_w g_27 123 2 (u 7 26) := ⟨_, rfl⟩
  have hW : zw_St Y N0 ad sh g_29 s H locs := by rw [hg_29]; exact hW
  obtain ⟨u_30, hu_30⟩ : ∃ z : zm_T, z = zm_w u_28 7 8 (u 7 26) := ⟨_, rfl⟩
  have hN : zc_N g_29 u_30 := by rw [hg_29, hu_30]; exact zc_Nw hN rfl _
  refine lv_iinc (v := 3) (lv' := [(3, .int 3), (2, .int 2), (0, .ref (ad 103)), (1, .ref (ad 104))]) X.1 X.2.1 dX0_copyFrom_55 hl (k := 0) rfl (by decide) (by decide) rfl (fun ls hl => ?_)
  refine lv_goto (tgt := 34) X.1 X.2.1 dX0_copyFrom_58 (by decide) ?_
  refine lv_iload_n X.1 X.2.1 dX0_copyFrom_34 rfl (lv_at hl 0 rfl) ?_
  refine lv_iconst (v := 3) X.1 X.2.1 dX0_copyFrom_35 (by decide) ?_
  refine zr_icmp_ge (a := 3) (b := 3) (tgt := 61) X dX0_copyFrom_36 (by decide) (by decide) (by decide) (fun _ => ?_) (fun c9 => absurd c9 (by decide))
  refine lv_iinc (v := 3) (lv' := [(2, .int 3), (3, .int 3), (0, .ref (ad 103)), (1, .ref (ad 104))]) X.1 X.2.1 dX0_copyFrom_61 hl (k := 1) rfl (by decide) (by decide) rfl (fun ls hl => ?_)
  refine lv_goto (tgt := 2) X.1 X.2.1 dX0_copyFrom_64 (by decide) ?_
  refine lv_iload_n X.1 X.2.1 dX0_copyFrom_2 rfl (lv_at hl 0 rfl) ?_
  refine lv_bipush (v := 6) X.1 X.2.1 dX0_copyFrom_3 (by decide) ?_
  refine zr_icmp_ge (a := 3) (b := 6) (tgt := 67) X dX0_copyFrom_5 (by decide) (by decide) (by decide) (fun c9 => absurd c9 (by decide)) (fun _ => ?_)
  refine lv_aload_n X.1 X.2.1 dX0_copyFrom_8 rfl (lv_at hl 2 rfl) ?_
  refine zr_get (r := 103) (v := .ref (ad 109)) X hW fs_X0_9_0 dX0_copyFrom_9 (zc_s103 hS) rfl rfl rfl ?_
  refine lv_iload_n X.1 X.2.1 dX0_copyFrom_12 rfl (lv_at hl 0 rfl) ?_
  refine lv_aload_n X.1 X.2.1 dX0_copyFrom_13 rfl (lv_at hl 3 rfl) ?_
  refine zr_get (r := 104) (v := .ref (ad 112)) X hW fs_X0_9_0 dX0_copyFrom_14 (zc_s104 hS) rfl rfl rfl ?_
  refine lv_iload_n X.1 X.2.1 dX0_copyFrom_17 rfl (lv_at hl 0 rfl) ?_
  refine zr_iald (r := 112) (v := u 5 9) X hW dX0_copyFrom_18 (zc_s112 hS) rfl rfl (zi_vp (by decide)) ((show g_29 112 (3 : Int32).toNatClampNeg = g_29 112 3 from rfl).trans ((show g_29 112 3 = g_27 112 3 from (by rw [hg_29]; rfl)).trans ((show g_27 112 3 = g_25 112 3 from (by rw [hg_27]; rfl)).trans ((show g_25 112 3 = g_23 112 3 from (by rw [hg_25]; rfl)).trans ((show g_23 112 3 = g_21 112 3 from (by rw [hg_23]; rfl)).trans ((show g_21 112 3 = g_19 112 3 from (by rw [hg_21]; rfl)).trans ((show g_19 112 3 = g_17 112 3 from (by rw [hg_19]; rfl)).trans ((show g_17 112 3 = g_15 112 3 from (by rw [hg_17]; rfl)).trans ((show g_15 112 3 = g_13 112 3 from (by rw [hg_15]; rfl)).trans ((show g_13 112 3 = g_11 112 3 from (by rw [hg_13]; rfl)).trans ((show g_11 112 3 = g_9 112 3 from (by rw [hg_11]; rfl)).trans ((show g_9 112 3 = g_7 112 3 from (by rw [hg_9]; rfl)).trans ((show g_7 112 3 = g_5 112 3 from (by rw [hg_7]; rfl)).trans ((show g_5 112 3 = g_3 112 3 from (by rw [hg_5]; rfl)).trans ((show g_3 112 3 = g_1 112 3 from (by rw [hg_3]; rfl)).trans ((show g_1 112 3 = g 112 3 from (by rw [hg_1]; rfl)).trans (hN0 _ _ _ _ rfl))))))))))))))))) ?_
  refine zr_iast (r := 109) X hW dX0_copyFrom_19 (zc_s109 hS) rfl rfl (zi_vp (by decide)) (fun H locs hW => ?_)
  obtain ⟨g_31, hg_31⟩ : ∃ z : zm_T, z = zm_w g_29 109 3 (u 5 9) := ⟨_, rfl⟩
  have hW : zw_St Y N0 ad sh g_31 s H locs := by rw [hg_31]; exact hW
  obtain ⟨u_32, hu_32⟩ : ∃ z : zm_T, z = zm_w u_30 5 3 (u 5 9) := ⟨_, rfl⟩
  have hN : zc_N g_31 u_32 := by rw [hg_31, hu_32]; exact zc_Nw hN rfl _
  refine lv_aload_n X.1 X.2.1 dX0_copyFrom_20 rfl (lv_at hl 2 rfl) ?_
  refine zr_get (r := 103) (v := .ref (ad 110)) X hW fs_X0_15_0 dX0_copyFrom_21 (zc_s103 hS) rfl rfl rfl ?_
  refine lv_iload_n X.1 X.2.1 dX0_copyFrom_24 rfl (lv_at hl 0 rfl) ?_
  refine lv_aload_n X.1 X.2.1 dX0_copyFrom_25 rfl (lv_at hl 3 rfl) ?_
  refine zr_get (r := 104) (v := .ref (ad 113)) X hW fs_X0_15_0 dX0_copyFrom_26 (zc_s104 hS) rfl rfl rfl ?_
  refine lv_iload_n X.1 X.2.1 dX0_copyFrom_29 rfl (lv_at hl 0 rfl) ?_
  refine zr_iald (r := 113) (v := u 6 9) X hW dX0_copyFrom_30 (zc_s113 hS) rfl rfl (zi_vp (by decide)) ((show g_31 113 (3 : Int32).toNatClampNeg = g_31 113 3 from rfl).trans ((show g_31 113 3 = g_29 113 3 from (by rw [hg_31]; rfl)).trans ((show g_29 113 3 = g_27 113 3 from (by rw [hg_29]; rfl)).trans ((show g_27 113 3 = g_25 113 3 from (by rw [hg_27]; rfl)).trans ((show g_25 113 3 = g_23 113 3 from (by rw [hg_25]; rfl)).trans ((show g_23 113 3 = g_21 113 3 from (by rw [hg_23]; rfl)).trans ((show g_21 113 3 = g_19 113 3 from (by rw [hg_21]; rfl)).trans ((show g_19 113 3 = g_17 113 3 from (by rw [hg_19]; rfl)).trans ((show g_17 113 3 = g_15 113 3 from (by rw [hg_17]; rfl)).trans ((show g_15 113 3 = g_13 113 3 from (by rw [hg_15]; rfl)).trans ((show g_13 113 3 = g_11 113 3 from (by rw [hg_13]; rfl)).trans ((show g_11 113 3 = g_9 113 3 from (by rw [hg_11]; rfl)).trans ((show g_9 113 3 = g_7 113 3 from (by rw [hg_9]; rfl)).trans ((show g_7 113 3 = g_5 113 3 from (by rw [hg_7]; rfl)).trans ((show g_5 113 3 = g_3 113 3 from (by rw [hg_5]; rfl)).trans ((show g_3 113 3 = g_1 113 3 from (by rw [hg_3]; rfl)).trans ((show g_1 113 3 = g 113 3 from (by rw [hg_1]; rfl)).trans (hN0 _ _ _ _ rfl)))))))))))))))))) ?_
  refine zr_iast (r := 110) X hW dX0_copyFrom_31 (zc_s110 hS) rfl rfl (zi_vp (by decide)) (fun H locs hW => ?_)
  obtain ⟨g_33, hg_33⟩ : ∃ z : zm_T, z = zm_w g_31 110 3 (u 6 9) := ⟨_, rfl⟩
  have hW : zw_St Y N0 ad sh g_33 s H locs := by rw [hg_33]; exact hW
  obtain ⟨u_34, hu_34⟩ : ∃ z : zm_T, z = zm_w u_32 6 3 (u 6 9) := ⟨_, rfl⟩
  have hN : zc_N g_33 u_34 := by rw [hg_33, hu_34]; exact zc_Nw hN rfl _
  refine lv_iconst (v := 0) X.1 X.2.1 dX0_copyFrom_32 (by decide) ?_
  refine lv_istore_n (lv' := [(3, .int 0), (2, .int 3), (0, .ref (ad 103)), (1, .ref (ad 104))]) X.1 X.2.1 dX0_copyFrom_33 rfl hl (by decide) rfl (fun ls hl => ?_)
  refine lv_iload_n X.1 X.2.1 dX0_copyFrom_34 rfl (lv_at hl 0 rfl) ?_
  refine lv_iconst (v := 3) X.1 X.2.1 dX0_copyFrom_35 (by decide) ?_
  refine zr_icmp_ge (a := 0) (b := 3) (tgt := 61) X dX0_copyFrom_36 (by decide) (by decide) (by decide) (fun c9 => absurd c9 (by decide)) (fun _ => ?_)
  refine lv_aload_n X.1 X.2.1 dX0_copyFrom_39 rfl (lv_at hl 2 rfl) ?_
  refine zr_get (r := 103) (v := .ref (ad 111)) X hW fs_X0_20_0 dX0_copyFrom_40 (zc_s103 hS) rfl rfl rfl ?_
  refine lv_iload_n X.1 X.2.1 dX0_copyFrom_43 rfl (lv_at hl 1 rfl) ?_
  refine zr_aald (r := 111) (v := .ref (ad 124)) X hW dX0_copyFrom_44 (zc_s111 hS) rfl rfl rfl (zi_vp (by decide)) rfl ?_
  refine lv_iload_n X.1 X.2.1 dX0_copyFrom_45 rfl (lv_at hl 0 rfl) ?_
  refine lv_aload_n X.1 X.2.1 dX0_copyFrom_46 rfl (lv_at hl 3 rfl) ?_
  refine zr_get (r := 104) (v := .ref (ad 114)) X hW fs_X0_20_0 dX0_copyFrom_47 (zc_s104 hS) rfl rfl rfl ?_
  refine lv_iload_n X.1 X.2.1 dX0_copyFrom_50 rfl (lv_at hl 1 rfl) ?_
  refine zr_aald (r := 114) (v := .ref (ad 130)) X hW dX0_copyFrom_51 (zc_s114 hS) rfl rfl rfl (zi_vp (by decide)) rfl ?_
  refine lv_iload_n X.1 X.2.1 dX0_copyFrom_52 rfl (lv_at hl 0 rfl) ?_
  refine zr_iald (r := 130) (v := u 7 27) X hW dX0_copyFrom_53 (zc_s130 hS) rfl rfl (zi_vp (by decide)) ((show g_33 130 (0 : Int32).toNatClampNeg = g_33 130 0 from rfl).trans ((show g_33 130 0 = g_31 130 0 from (by rw [hg_33]; rfl)).trans ((show g_31 130 0 = g_29 130 0 from (by rw [hg_31]; rfl)).trans ((show g_29 130 0 = g_27 130 0 from (by rw [hg_29]; rfl)).trans ((show g_27 130 0 = g_25 130 0 from (by rw [hg_27]; rfl)).trans ((show g_25 130 0 = g_23 130 0 from (by rw [hg_25]; rfl)).trans ((show g_23 130 0 = g_21 130 0 from (by rw [hg_23]; rfl)).trans ((show g_21 130 0 = g_19 130 0 from (by rw [hg_21]; rfl)).trans ((show g_19 130 0 = g_17 130 0 from (by rw [hg_19]; rfl)).trans ((show g_17 130 0 = g_15 130 0 from (by rw [hg_17]; rfl)).trans ((show g_15 130 0 = g_13 130 0 from (by rw [hg_15]; rfl)).trans ((show g_13 130 0 = g_11 130 0 from (by rw [hg_13]; rfl)).trans ((show g_11 130 0 = g_9 130 0 from (by rw [hg_11]; rfl)).trans ((show g_9 130 0 = g_7 130 0 from (by rw [hg_9]; rfl)).trans ((show g_7 130 0 = g_5 130 0 from (by rw [hg_7]; rfl)).trans ((show g_5 130 0 = g_3 130 0 from (by rw [hg_5]; rfl)).trans ((show g_3 130 0 = g_1 130 0 from (by rw [hg_3]; rfl)).trans ((show g_1 130 0 = g 130 0 from (by rw [hg_1]; rfl)).trans (hN0 _ _ _ _ rfl))))))))))))))))))) ?_
  refine zr_iast (r := 124) X hW dX0_copyFrom_54 (zc_s124 hS) rfl rfl (zi_vp (by decide)) (fun H locs hW => ?_)
  obtain ⟨g_35, hg_35⟩ : ∃ z : zm_T, z = zm_w g_33 124 0 (u 7 27) := ⟨_, rfl⟩
  have hW : zw_St Y N0 ad sh g_35 s H locs := by rw [hg_35]; exact hW
  obtain ⟨u_36, hu_36⟩ : ∃ z : zm_T, z = zm_w u_34 7 9 (u 7 27) := ⟨_, rfl⟩
  have hN : zc_N g_35 u_36 := by rw [hg_35, hu_36]; exact zc_Nw hN rfl _
  refine lv_iinc (v := 1) (lv' := [(3, .int 1), (2, .int 3), (0, .ref (ad 103)), (1, .ref (ad 104))]) X.1 X.2.1 dX0_copyFrom_55 hl (k := 0) rfl (by decide) (by decide) rfl (fun ls hl => ?_)
  refine lv_goto (tgt := 34) X.1 X.2.1 dX0_copyFrom_58 (by decide) ?_
  refine lv_iload_n X.1 X.2.1 dX0_copyFrom_34 rfl (lv_at hl 0 rfl) ?_
  refine lv_iconst (v := 3) X.1 X.2.1 dX0_copyFrom_35 (by decide) ?_
  refine zr_icmp_ge (a := 1) (b := 3) (tgt := 61) X dX0_copyFrom_36 (by decide) (by decide) (by decide) (fun c9 => absurd c9 (by decide)) (fun _ => ?_)
  refine lv_aload_n X.1 X.2.1 dX0_copyFrom_39 rfl (lv_at hl 2 rfl) ?_
  refine zr_get (r := 103) (v := .ref (ad 111)) X hW fs_X0_20_0 dX0_copyFrom_40 (zc_s103 hS) rfl rfl rfl ?_
  refine lv_iload_n X.1 X.2.1 dX0_copyFrom_43 rfl (lv_at hl 1 rfl) ?_
  refine zr_aald (r := 111) (v := .ref (ad 124)) X hW dX0_copyFrom_44 (zc_s111 hS) rfl rfl rfl (zi_vp (by decide)) rfl ?_
  refine lv_iload_n X.1 X.2.1 dX0_copyFrom_45 rfl (lv_at hl 0 rfl) ?_
  refine lv_aload_n X.1 X.2.1 dX0_copyFrom_46 rfl (lv_at hl 3 rfl) ?_
  refine zr_get (r := 104) (v := .ref (ad 114)) X hW fs_X0_20_0 dX0_copyFrom_47 (zc_s104 hS) rfl rfl rfl ?_
  refine lv_iload_n X.1 X.2.1 dX0_copyFrom_50 rfl (lv_at hl 1 rfl) ?_
  refine zr_aald (r := 114) (v := .ref (ad 130)) X hW dX0_copyFrom_51 (zc_s114 hS) rfl rfl rfl (zi_vp (by decide)) rfl ?_
  refine lv_iload_n X.1 X.2.1 dX0_copyFrom_52 rfl (lv_at hl 0 rfl) ?_
  refine zr_iald (r := 130) (v := u 7 28) X hW dX0_copyFrom_53 (zc_s130 hS) rfl rfl (zi_vp (by decide)) ((show g_35 130 (1 : Int32).toNatClampNeg = g_35 130 1 from rfl).trans ((show g_35 130 1 = g_33 130 1 from (by rw [hg_35]; rfl)).trans ((show g_33 130 1 = g_31 130 1 from (by rw [hg_33]; rfl)).trans ((show g_31 130 1 = g_29 130 1 from (by rw [hg_31]; rfl)).trans ((show g_29 130 1 = g_27 130 1 from (by rw [hg_29]; rfl)).trans ((show g_27 130 1 = g_25 130 1 from (by rw [hg_27]; rfl)).trans ((show g_25 130 1 = g_23 130 1 from (by rw [hg_25]; rfl)).trans ((show g_23 130 1 = g_21 130 1 from (by rw [hg_23]; rfl)).trans ((show g_21 130 1 = g_19 130 1 from (by rw [hg_21]; rfl)).trans ((show g_19 130 1 = g_17 130 1 from (by rw [hg_19]; rfl)).trans ((show g_17 130 1 = g_15 130 1 from (by rw [hg_17]; rfl)).trans ((show g_15 130 1 = g_13 130 1 from (by rw [hg_15]; rfl)).trans ((show g_13 130 1 = g_11 130 1 from (by rw [hg_13]; rfl)).trans ((show g_11 130 1 = g_9 130 1 from (by rw [hg_11]; rfl)).trans ((show g_9 130 1 = g_7 130 1 from (by rw [hg_9]; rfl)).trans ((show g_7 130 1 = g_5 130 1 from (by rw [hg_7]; rfl)).trans ((show g_5 130 1 = g_3 130 1 from (by rw [hg_5]; rfl)).trans ((show g_3 130 1 = g_1 130 1 from (by rw [hg_3]; rfl)).trans ((show g_1 130 1 = g 130 1 from (by rw [hg_1]; rfl)).trans (hN0 _ _ _ _ rfl)))))))))))))))))))) ?_
  refine zr_iast (r := 124) X hW dX0_copyFrom_54 (zc_s124 hS) rfl rfl (zi_vp (by decide)) (fun H locs hW => ?_)
  obtain ⟨g_37, hg_37⟩ : ∃ z : zm_T, z = zm_w g_35 124 1 (u 7 28) := ⟨_, rfl⟩
  have hW : zw_St Y N0 ad sh g_37 s H locs := by rw [hg_37]; exact hW
  obtain ⟨u_38, hu_38⟩ : ∃ z : zm_T, z = zm_w u_36 7 10 (u 7 28) := ⟨_, rfl⟩
  have hN : zc_N g_37 u_38 := by rw [hg_37, hu_38]; exact zc_Nw hN rfl _
  refine lv_iinc (v := 2) (lv' := [(3, .int 2), (2, .int 3), (0, .ref (ad 103)), (1, .ref (ad 104))]) X.1 X.2.1 dX0_copyFrom_55 hl (k := 0) rfl (by decide) (by decide) rfl (fun ls hl => ?_)
  refine lv_goto (tgt := 34) X.1 X.2.1 dX0_copyFrom_58 (by decide) ?_
  refine lv_iload_n X.1 X.2.1 dX0_copyFrom_34 rfl (lv_at hl 0 rfl) ?_
  refine lv_iconst (v := 3) X.1 X.2.1 dX0_copyFrom_35 (by decide) ?_
  refine zr_icmp_ge (a := 2) (b := 3) (tgt := 61) X dX0_copyFrom_36 (by decide) (by decide) (by decide) (fun c9 => absurd c9 (by decide)) (fun _ => ?_)
  refine lv_aload_n X.1 X.2.1 dX0_copyFrom_39 rfl (lv_at hl 2 rfl) ?_
  refine zr_get (r := 103) (v := .ref (ad 111)) X hW fs_X0_20_0 dX0_copyFrom_40 (zc_s103 hS) rfl rfl rfl ?_
  refine lv_iload_n X.1 X.2.1 dX0_copyFrom_43 rfl (lv_at hl 1 rfl) ?_
  refine zr_aald (r := 111) (v := .ref (ad 124)) X hW dX0_copyFrom_44 (zc_s111 hS) rfl rfl rfl (zi_vp (by decide)) rfl ?_
  refine lv_iload_n X.1 X.2.1 dX0_copyFrom_45 rfl (lv_at hl 0 rfl) ?_
  refine lv_aload_n X.1 X.2.1 dX0_copyFrom_46 rfl (lv_at hl 3 rfl) ?_
  refine zr_get (r := 104) (v := .ref (ad 114)) X hW fs_X0_20_0 dX0_copyFrom_47 (zc_s104 hS) rfl rfl rfl ?_
  refine lv_iload_n X.1 X.2.1 dX0_copyFrom_50 rfl (lv_at hl 1 rfl) ?_
  refine zr_aald (r := 114) (v := .ref (ad 130)) X hW dX0_copyFrom_51 (zc_s114 hS) rfl rfl rfl (zi_vp (by decide)) rfl ?_
  refine lv_iload_n X.1 X.2.1 dX0_copyFrom_52 rfl (lv_at hl 0 rfl) ?_
  refine zr_iald (r := 130) (v := u 7 29) X hW dX0_copyFrom_53 (zc_s130 hS) rfl rfl (zi_vp (by decide)) ((show g_37 130 (2 : Int32).toNatClampNeg = g_37 130 2 from rfl).trans ((show g_37 130 2 = g_35 130 2 from (by rw [hg_37]; rfl)).trans ((show g_35 130 2 = g_33 130 2 from (by rw [hg_35]; rfl)).trans ((show g_33 130 2 = g_31 130 2 from (by rw [hg_33]; rfl)).trans ((show g_31 130 2 = g_29 130 2 from (by rw [hg_31]; rfl)).trans ((show g_29 130 2 = g_27 130 2 from (by rw [hg_29]; rfl)).trans ((show g_27 130 2 = g_25 130 2 from (by rw [hg_27]; rfl)).trans ((show g_25 130 2 = g_23 130 2 from (by rw [hg_25]; rfl)).trans ((show g_23 130 2 = g_21 130 2 from (by rw [hg_23]; rfl)).trans ((show g_21 130 2 = g_19 130 2 from (by rw [hg_21]; rfl)).trans ((show g_19 130 2 = g_17 130 2 from (by rw [hg_19]; rfl)).trans ((show g_17 130 2 = g_15 130 2 from (by rw [hg_17]; rfl)).trans ((show g_15 130 2 = g_13 130 2 from (by rw [hg_15]; rfl)).trans ((show g_13 130 2 = g_11 130 2 from (by rw [hg_13]; rfl)).trans ((show g_11 130 2 = g_9 130 2 from (by rw [hg_11]; rfl)).trans ((show g_9 130 2 = g_7 130 2 from (by rw [hg_9]; rfl)).trans ((show g_7 130 2 = g_5 130 2 from (by rw [hg_7]; rfl)).trans ((show g_5 130 2 = g_3 130 2 from (by rw [hg_5]; rfl)).trans ((show g_3 130 2 = g_1 130 2 from (by rw [hg_3]; rfl)).trans ((show g_1 130 2 = g 130 2 from (by rw [hg_1]; rfl)).trans (hN0 _ _ _ _ rfl))))))))))))))))))))) ?_
  refine zr_iast (r := 124) X hW dX0_copyFrom_54 (zc_s124 hS) rfl rfl (zi_vp (by decide)) (fun H locs hW => ?_)
  obtain ⟨g_39, hg_39⟩ : ∃ z : zm_T, z = zm_w g_37 124 2 (u 7 29) := ⟨_, rfl⟩
  have hW : zw_St Y N0 ad sh g_39 s H locs := by rw [hg_39]; exact hW
  obtain ⟨u_40, hu_40⟩ : ∃ z : zm_T, z = zm_w u_38 7 11 (u 7 29) := ⟨_, rfl⟩
  have hN : zc_N g_39 u_40 := by rw [hg_39, hu_40]; exact zc_Nw hN rfl _
  refine lv_iinc (v := 3) (lv' := [(3, .int 3), (2, .int 3), (0, .ref (ad 103)), (1, .ref (ad 104))]) X.1 X.2.1 dX0_copyFrom_55 hl (k := 0) rfl (by decide) (by decide) rfl (fun ls hl => ?_)
  refine lv_goto (tgt := 34) X.1 X.2.1 dX0_copyFrom_58 (by decide) ?_
  refine lv_iload_n X.1 X.2.1 dX0_copyFrom_34 rfl (lv_at hl 0 rfl) ?_
  refine lv_iconst (v := 3) X.1 X.2.1 dX0_copyFrom_35 (by decide) ?_
  refine zr_icmp_ge (a := 3) (b := 3) (tgt := 61) X dX0_copyFrom_36 (by decide) (by decide) (by decide) (fun _ => ?_) (fun c9 => absurd c9 (by decide))
  refine lv_iinc (v := 4) (lv' := [(2, .int 4), (3, .int 3), (0, .ref (ad 103)), (1, .ref (ad 104))]) X.1 X.2.1 dX0_copyFrom_61 hl (k := 1) rfl (by decide) (by decide) rfl (fun ls hl => ?_)
  refine lv_goto (tgt := 2) X.1 X.2.1 dX0_copyFrom_64 (by decide) ?_
  refine lv_iload_n X.1 X.2.1 dX0_copyFrom_2 rfl (lv_at hl 0 rfl) ?_
  refine lv_bipush (v := 6) X.1 X.2.1 dX0_copyFrom_3 (by decide) ?_
  refine zr_icmp_ge (a := 4) (b := 6) (tgt := 67) X dX0_copyFrom_5 (by decide) (by decide) (by decide) (fun c9 => absurd c9 (by decide)) (fun _ => ?_)
  refine lv_aload_n X.1 X.2.1 dX0_copyFrom_8 rfl (lv_at hl 2 rfl) ?_
  refine zr_get (r := 103) (v := .ref (ad 109)) X hW fs_X0_9_0 dX0_copyFrom_9 (zc_s103 hS) rfl rfl rfl ?_
  refine lv_iload_n X.1 X.2.1 dX0_copyFrom_12 rfl (lv_at hl 0 rfl) ?_
  refine lv_aload_n X.1 X.2.1 dX0_copyFrom_13 rfl (lv_at hl 3 rfl) ?_
  refine zr_get (r := 104) (v := .ref (ad 112)) X hW fs_X0_9_0 dX0_copyFrom_14 (zc_s104 hS) rfl rfl rfl ?_
  refine lv_iload_n X.1 X.2.1 dX0_copyFrom_17 rfl (lv_at hl 0 rfl) ?_
  refine zr_iald (r := 112) (v := u 5 10) X hW dX0_copyFrom_18 (zc_s112 hS) rfl rfl (zi_vp (by decide)) ((show g_39 112 (4 : Int32).toNatClampNeg = g_39 112 4 from rfl).trans ((show g_39 112 4 = g_37 112 4 from (by rw [hg_39]; rfl)).trans ((show g_37 112 4 = g_35 112 4 from (by rw [hg_37]; rfl)).trans ((show g_35 112 4 = g_33 112 4 from (by rw [hg_35]; rfl)).trans ((show g_33 112 4 = g_31 112 4 from (by rw [hg_33]; rfl)).trans ((show g_31 112 4 = g_29 112 4 from (by rw [hg_31]; rfl)).trans ((show g_29 112 4 = g_27 112 4 from (by rw [hg_29]; rfl)).trans ((show g_27 112 4 = g_25 112 4 from (by rw [hg_27]; rfl)).trans ((show g_25 112 4 = g_23 112 4 from (by rw [hg_25]; rfl)).trans ((show g_23 112 4 = g_21 112 4 from (by rw [hg_23]; rfl)).trans ((show g_21 112 4 = g_19 112 4 from (by rw [hg_21]; rfl)).trans ((show g_19 112 4 = g_17 112 4 from (by rw [hg_19]; rfl)).trans ((show g_17 112 4 = g_15 112 4 from (by rw [hg_17]; rfl)).trans ((show g_15 112 4 = g_13 112 4 from (by rw [hg_15]; rfl)).trans ((show g_13 112 4 = g_11 112 4 from (by rw [hg_13]; rfl)).trans ((show g_11 112 4 = g_9 112 4 from (by rw [hg_11]; rfl)).trans ((show g_9 112 4 = g_7 112 4 from (by rw [hg_9]; rfl)).trans ((show g_7 112 4 = g_5 112 4 from (by rw [hg_7]; rfl)).trans ((show g_5 112 4 = g_3 112 4 from (by rw [hg_5]; rfl)).trans ((show g_3 112 4 = g_1 112 4 from (by rw [hg_3]; rfl)).trans ((show g_1 112 4 = g 112 4 from (by rw [hg_1]; rfl)).trans (hN0 _ _ _ _ rfl)))))))))))))))))))))) ?_
  refine zr_iast (r := 109) X hW dX0_copyFrom_19 (zc_s109 hS) rfl rfl (zi_vp (by decide)) (fun H locs hW => ?_)
  obtain ⟨g_41, hg_41⟩ : ∃ z : zm_T, z = zm_w g_39 109 4 (u 5 10) := ⟨_, rfl⟩
  have hW : zw_St Y N0 ad sh g_41 s H locs := by rw [hg_41]; exact hW
  obtain ⟨u_42, hu_42⟩ : ∃ z : zm_T, z = zm_w u_40 5 4 (u 5 10) := ⟨_, rfl⟩
  have hN : zc_N g_41 u_42 := by rw [hg_41, hu_42]; exact zc_Nw hN rfl _
  refine lv_aload_n X.1 X.2.1 dX0_copyFrom_20 rfl (lv_at hl 2 rfl) ?_
  refine zr_get (r := 103) (v := .ref (ad 110)) X hW fs_X0_15_0 dX0_copyFrom_21 (zc_s103 hS) rfl rfl rfl ?_
  refine lv_iload_n X.1 X.2.1 dX0_copyFrom_24 rfl (lv_at hl 0 rfl) ?_
  refine lv_aload_n X.1 X.2.1 dX0_copyFrom_25 rfl (lv_at hl 3 rfl) ?_
  refine zr_get (r := 104) (v := .ref (ad 113)) X hW fs_X0_15_0 dX0_copyFrom_26 (zc_s104 hS) rfl rfl rfl ?_
  refine lv_iload_n X.1 X.2.1 dX0_copyFrom_29 rfl (lv_at hl 0 rfl) ?_
  refine zr_iald (r := 113) (v := u 6 10) X hW dX0_copyFrom_30 (zc_s113 hS) rfl rfl (zi_vp (by decide)) ((show g_41 113 (4 : Int32).toNatClampNeg = g_41 113 4 from rfl).trans ((show g_41 113 4 = g_39 113 4 from (by rw [hg_41]; rfl)).trans ((show g_39 113 4 = g_37 113 4 from (by rw [hg_39]; rfl)).trans ((show g_37 113 4 = g_35 113 4 from (by rw [hg_37]; rfl)).trans ((show g_35 113 4 = g_33 113 4 from (by rw [hg_35]; rfl)).trans ((show g_33 113 4 = g_31 113 4 from (by rw [hg_33]; rfl)).trans ((show g_31 113 4 = g_29 113 4 from (by rw [hg_31]; rfl)).trans ((show g_29 113 4 = g_27 113 4 from (by rw [hg_29]; rfl)).trans ((show g_27 113 4 = g_25 113 4 from (by rw [hg_27]; rfl)).trans ((show g_25 113 4 = g_23 113 4 from (by rw [hg_25]; rfl)).trans ((show g_23 113 4 = g_21 113 4 from (by rw [hg_23]; rfl)).trans ((show g_21 113 4 = g_19 113 4 from (by rw [hg_21]; rfl)).trans ((show g_19 113 4 = g_17 113 4 from (by rw [hg_19]; rfl)).trans ((show g_17 113 4 = g_15 113 4 from (by rw [hg_17]; rfl)).trans ((show g_15 113 4 = g_13 113 4 from (by rw [hg_15]; rfl)).trans ((show g_13 113 4 = g_11 113 4 from (by rw [hg_13]; rfl)).trans ((show g_11 113 4 = g_9 113 4 from (by rw [hg_11]; rfl)).trans ((show g_9 113 4 = g_7 113 4 from (by rw [hg_9]; rfl)).trans ((show g_7 113 4 = g_5 113 4 from (by rw [hg_7]; rfl)).trans ((show g_5 113 4 = g_3 113 4 from (by rw [hg_5]; rfl)).trans ((show g_3 113 4 = g_1 113 4 from (by rw [hg_3]; rfl)).trans ((show g_1 113 4 = g 113 4 from (by rw [hg_1]; rfl)).trans (hN0 _ _ _ _ rfl))))))))))))))))))))))) ?_
  refine zr_iast (r := 110) X hW dX0_copyFrom_31 (zc_s110 hS) rfl rfl (zi_vp (by decide)) (fun H locs hW => ?_)
  obtain ⟨g_43, hg_43⟩ : ∃ z : zm_T, z = zm_w g_41 110 4 (u 6 10) := ⟨_, rfl⟩
  have hW : zw_St Y N0 ad sh g_43 s H locs := by rw [hg_43]; exact hW
  obtain ⟨u_44, hu_44⟩ : ∃ z : zm_T, z = zm_w u_42 6 4 (u 6 10) := ⟨_, rfl⟩
  have hN : zc_N g_43 u_44 := by rw [hg_43, hu_44]; exact zc_Nw hN rfl _
  refine lv_iconst (v := 0) X.1 X.2.1 dX0_copyFrom_32 (by decide) ?_
  refine lv_istore_n (lv' := [(3, .int 0), (2, .int 4), (0, .ref (ad 103)), (1, .ref (ad 104))]) X.1 X.2.1 dX0_copyFrom_33 rfl hl (by decide) rfl (fun ls hl => ?_)
  refine lv_iload_n X.1 X.2.1 dX0_copyFrom_34 rfl (lv_at hl 0 rfl) ?_
  refine lv_iconst (v := 3) X.1 X.2.1 dX0_copyFrom_35 (by decide) ?_
  refine zr_icmp_ge (a := 0) (b := 3) (tgt := 61) X dX0_copyFrom_36 (by decide) (by decide) (by decide) (fun c9 => absurd c9 (by decide)) (fun _ => ?_)
  refine lv_aload_n X.1 X.2.1 dX0_copyFrom_39 rfl (lv_at hl 2 rfl) ?_
  refine zr_get (r := 103) (v := .ref (ad 111)) X hW fs_X0_20_0 dX0_copyFrom_40 (zc_s103 hS) rfl rfl rfl ?_
  refine lv_iload_n X.1 X.2.1 dX0_copyFrom_43 rfl (lv_at hl 1 rfl) ?_
  refine zr_aald (r := 111) (v := .ref (ad 125)) X hW dX0_copyFrom_44 (zc_s111 hS) rfl rfl rfl (zi_vp (by decide)) rfl ?_
  refine lv_iload_n X.1 X.2.1 dX0_copyFrom_45 rfl (lv_at hl 0 rfl) ?_
  refine lv_aload_n X.1 X.2.1 dX0_copyFrom_46 rfl (lv_at hl 3 rfl) ?_
  refine zr_get (r := 104) (v := .ref (ad 114)) X hW fs_X0_20_0 dX0_copyFrom_47 (zc_s104 hS) rfl rfl rfl ?_
  refine lv_iload_n X.1 X.2.1 dX0_copyFrom_50 rfl (lv_at hl 1 rfl) ?_
  refine zr_aald (r := 114) (v := .ref (ad 131)) X hW dX0_copyFrom_51 (zc_s114 hS) rfl rfl rfl (zi_vp (by decide)) rfl ?_
  refine lv_iload_n X.1 X.2.1 dX0_copyFrom_52 rfl (lv_at hl 0 rfl) ?_
  refine zr_iald (r := 131) (v := u 7 30) X hW dX0_copyFrom_53 (zc_s131 hS) rfl rfl (zi_vp (by decide)) ((show g_43 131 (0 : Int32).toNatClampNeg = g_43 131 0 from rfl).trans ((show g_43 131 0 = g_41 131 0 from (by rw [hg_43]; rfl)).trans ((show g_41 131 0 = g_39 131 0 from (by rw [hg_41]; rfl)).trans ((show g_39 131 0 = g_37 131 0 from (by rw [hg_39]; rfl)).trans ((show g_37 131 0 = g_35 131 0 from (by rw [hg_37]; rfl)).trans ((show g_35 131 0 = g_33 131 0 from (by rw [hg_35]; rfl)).trans ((show g_33 131 0 = g_31 131 0 from (by rw [hg_33]; rfl)).trans ((show g_31 131 0 = g_29 131 0 from (by rw [hg_31]; rfl)).trans ((show g_29 131 0 = g_27 131 0 from (by rw [hg_29]; rfl)).trans ((show g_27 131 0 = g_25 131 0 from (by rw [hg_27]; rfl)).trans ((show g_25 131 0 = g_23 131 0 from (by rw [hg_25]; rfl)).trans ((show g_23 131 0 = g_21 131 0 from (by rw [hg_23]; rfl)).trans ((show g_21 131 0 = g_19 131 0 from (by rw [hg_21]; rfl)).trans ((show g_19 131 0 = g_17 131 0 from (by rw [hg_19]; rfl)).trans ((show g_17 131 0 = g_15 131 0 from (by rw [hg_17]; rfl)).trans ((show g_15 131 0 = g_13 131 0 from (by rw [hg_15]; rfl)).trans ((show g_13 131 0 = g_11 131 0 from (by rw [hg_13]; rfl)).trans ((show g_11 131 0 = g_9 131 0 from (by rw [hg_11]; rfl)).trans ((show g_9 131 0 = g_7 131 0 from (by rw [hg_9]; rfl)).trans ((show g_7 131 0 = g_5 131 0 from (by rw [hg_7]; rfl)).trans ((show g_5 131 0 = g_3 131 0 from (by rw [hg_5]; rfl)).trans ((show g_3 131 0 = g_1 131 0 from (by rw [hg_3]; rfl)).trans ((show g_1 131 0 = g 131 0 from (by rw [hg_1]; rfl)).trans (hN0 _ _ _ _ rfl)))))))))))))))))))))))) ?_
  refine zr_iast (r := 125) X hW dX0_copyFrom_54 (zc_s125 hS) rfl rfl (zi_vp (by decide)) (fun H locs hW => ?_)
  obtain ⟨g_45, hg_45⟩ : ∃ z : zm_T, z = zm_w g_43 125 0 (u 7 30) := ⟨_, rfl⟩
  have hW : zw_St Y N0 ad sh g_45 s H locs := by rw [hg_45]; exact hW
  obtain ⟨u_46, hu_46⟩ : ∃ z : zm_T, z = zm_w u_44 7 12 (u 7 30) := ⟨_, rfl⟩
  have hN : zc_N g_45 u_46 := by rw [hg_45, hu_46]; exact zc_Nw hN rfl _
  refine lv_iinc (v := 1) (lv' := [(3, .int 1), (2, .int 4), (0, .ref (ad 103)), (1, .ref (ad 104))]) X.1 X.2.1 dX0_copyFrom_55 hl (k := 0) rfl (by decide) (by decide) rfl (fun ls hl => ?_)
  refine lv_goto (tgt := 34) X.1 X.2.1 dX0_copyFrom_58 (by decide) ?_
  refine lv_iload_n X.1 X.2.1 dX0_copyFrom_34 rfl (lv_at hl 0 rfl) ?_
  refine lv_iconst (v := 3) X.1 X.2.1 dX0_copyFrom_35 (by decide) ?_
  refine zr_icmp_ge (a := 1) (b := 3) (tgt := 61) X dX0_copyFrom_36 (by decide) (by decide) (by decide) (fun c9 => absurd c9 (by decide)) (fun _ => ?_)
  refine lv_aload_n X.1 X.2.1 dX0_copyFrom_39 rfl (lv_at hl 2 rfl) ?_
  refine zr_get (r := 103) (v := .ref (ad 111)) X hW fs_X0_20_0 dX0_copyFrom_40 (zc_s103 hS) rfl rfl rfl ?_
  refine lv_iload_n X.1 X.2.1 dX0_copyFrom_43 rfl (lv_at hl 1 rfl) ?_
  refine zr_aald (r := 111) (v := .ref (ad 125)) X hW dX0_copyFrom_44 (zc_s111 hS) rfl rfl rfl (zi_vp (by decide)) rfl ?_
  refine lv_iload_n X.1 X.2.1 dX0_copyFrom_45 rfl (lv_at hl 0 rfl) ?_
  refine lv_aload_n X.1 X.2.1 dX0_copyFrom_46 rfl (lv_at hl 3 rfl) ?_
  refine zr_get (r := 104) (v := .ref (ad 114)) X hW fs_X0_20_0 dX0_copyFrom_47 (zc_s104 hS) rfl rfl rfl ?_
  refine lv_iload_n X.1 X.2.1 dX0_copyFrom_50 rfl (lv_at hl 1 rfl) ?_
  refine zr_aald (r := 114) (v := .ref (ad 131)) X hW dX0_copyFrom_51 (zc_s114 hS) rfl rfl rfl (zi_vp (by decide)) rfl ?_
  refine lv_iload_n X.1 X.2.1 dX0_copyFrom_52 rfl (lv_at hl 0 rfl) ?_
  refine zr_iald (r := 131) (v := u 7 31) X hW dX0_copyFrom_53 (zc_s131 hS) rfl rfl (zi_vp (by decide)) ((show g_45 131 (1 : Int32).toNatClampNeg = g_45 131 1 from rfl).trans ((show g_45 131 1 = g_43 131 1 from (by rw [hg_45]; rfl)).trans ((show g_43 131 1 = g_41 131 1 from (by rw [hg_43]; rfl)).trans ((show g_41 131 1 = g_39 131 1 from (by rw [hg_41]; rfl)).trans ((show g_39 131 1 = g_37 131 1 from (by rw [hg_39]; rfl)).trans ((show g_37 131 1 = g_35 131 1 from (by rw [hg_37]; rfl)).trans ((show g_35 131 1 = g_33 131 1 from (by rw [hg_35]; rfl)).trans ((show g_33 131 1 = g_31 131 1 from (by rw [hg_33]; rfl)).trans ((show g_31 131 1 = g_29 131 1 from (by rw [hg_31]; rfl)).trans ((show g_29 131 1 = g_27 131 1 from (by rw [hg_29]; rfl)).trans ((show g_27 131 1 = g_25 131 1 from (by rw [hg_27]; rfl)).trans ((show g_25 131 1 = g_23 131 1 from (by rw [hg_25]; rfl)).trans ((show g_23 131 1 = g_21 131 1 from (by rw [hg_23]; rfl)).trans ((show g_21 131 1 = g_19 131 1 from (by rw [hg_21]; rfl)).trans ((show g_19 131 1 = g_17 131 1 from (by rw [hg_19]; rfl)).trans ((show g_17 131 1 = g_15 131 1 from (by rw [hg_17]; rfl)).trans ((show g_15 131 1 = g_13 131 1 from (by rw [hg_15]; rfl)).trans ((show g_13 131 1 = g_11 131 1 from (by rw [hg_13]; rfl)).trans ((show g_11 131 1 = g_9 131 1 from (by rw [hg_11]; rfl)).trans ((show g_9 131 1 = g_7 131 1 from (by rw [hg_9]; rfl)).trans ((show g_7 131 1 = g_5 131 1 from (by rw [hg_7]; rfl)).trans ((show g_5 131 1 = g_3 131 1 from (by rw [hg_5]; rfl)).trans ((show g_3 131 1 = g_1 131 1 from (by rw [hg_3]; rfl)).trans ((show g_1 131 1 = g 131 1 from (by rw [hg_1]; rfl)).trans (hN0 _ _ _ _ rfl))))))))))))))))))))))))) ?_
  refine zr_iast (r := 125) X hW dX0_copyFrom_54 (zc_s125 hS) rfl rfl (zi_vp (by decide)) (fun H locs hW => ?_)
  obtain ⟨g_47, hg_47⟩ : ∃ z : zm_T, z = zm_w g_45 125 1 (u 7 31) := ⟨_, rfl⟩
  have hW : zw_St Y N0 ad sh g_47 s H locs := by rw [hg_47]; exact hW
  obtain ⟨u_48, hu_48⟩ : ∃ z : zm_T, z = zm_w u_46 7 13 (u 7 31) := ⟨_, rfl⟩
  have hN : zc_N g_47 u_48 := by rw [hg_47, hu_48]; exact zc_Nw hN rfl _
  refine lv_iinc (v := 2) (lv' := [(3, .int 2), (2, .int 4), (0, .ref (ad 103)), (1, .ref (ad 104))]) X.1 X.2.1 dX0_copyFrom_55 hl (k := 0) rfl (by decide) (by decide) rfl (fun ls hl => ?_)
  refine lv_goto (tgt := 34) X.1 X.2.1 dX0_copyFrom_58 (by decide) ?_
  refine lv_iload_n X.1 X.2.1 dX0_copyFrom_34 rfl (lv_at hl 0 rfl) ?_
  refine lv_iconst (v := 3) X.1 X.2.1 dX0_copyFrom_35 (by decide) ?_
  refine zr_icmp_ge (a := 2) (b := 3) (tgt := 61) X dX0_copyFrom_36 (by decide) (by decide) (by decide) (fun c9 => absurd c9 (by decide)) (fun _ => ?_)
  refine lv_aload_n X.1 X.2.1 dX0_copyFrom_39 rfl (lv_at hl 2 rfl) ?_
  refine zr_get (r := 103) (v := .ref (ad 111)) X hW fs_X0_20_0 dX0_copyFrom_40 (zc_s103 hS) rfl rfl rfl ?_
  refine lv_iload_n X.1 X.2.1 dX0_copyFrom_43 rfl (lv_at hl 1 rfl) ?_
  refine zr_aald (r := 111) (v := .ref (ad 125)) X hW dX0_copyFrom_44 (zc_s111 hS) rfl rfl rfl (zi_vp (by decide)) rfl ?_
  refine lv_iload_n X.1 X.2.1 dX0_copyFrom_45 rfl (lv_at hl 0 rfl) ?_
  refine lv_aload_n X.1 X.2.1 dX0_copyFrom_46 rfl (lv_at hl 3 rfl) ?_
  refine zr_get (r := 104) (v := .ref (ad 114)) X hW fs_X0_20_0 dX0_copyFrom_47 (zc_s104 hS) rfl rfl rfl ?_
  refine lv_iload_n X.1 X.2.1 dX0_copyFrom_50 rfl (lv_at hl 1 rfl) ?_
  refine zr_aald (r := 114) (v := .ref (ad 131)) X hW dX0_copyFrom_51 (zc_s114 hS) rfl rfl rfl (zi_vp (by decide)) rfl ?_
  refine lv_iload_n X.1 X.2.1 dX0_copyFrom_52 rfl (lv_at hl 0 rfl) ?_
  refine zr_iald (r := 131) (v := u 7 32) X hW dX0_copyFrom_53 (zc_s131 hS) rfl rfl (zi_vp (by decide)) ((show g_47 131 (2 : Int32).toNatClampNeg = g_47 131 2 from rfl).trans ((show g_47 131 2 = g_45 131 2 from (by rw [hg_47]; rfl)).trans ((show g_45 131 2 = g_43 131 2 from (by rw [hg_45]; rfl)).trans ((show g_43 131 2 = g_41 131 2 from (by rw [hg_43]; rfl)).trans ((show g_41 131 2 = g_39 131 2 from (by rw [hg_41]; rfl)).trans ((show g_39 131 2 = g_37 131 2 from (by rw [hg_39]; rfl)).trans ((show g_37 131 2 = g_35 131 2 from (by rw [hg_37]; rfl)).trans ((show g_35 131 2 = g_33 131 2 from (by rw [hg_35]; rfl)).trans ((show g_33 131 2 = g_31 131 2 from (by rw [hg_33]; rfl)).trans ((show g_31 131 2 = g_29 131 2 from (by rw [hg_31]; rfl)).trans ((show g_29 131 2 = g_27 131 2 from (by rw [hg_29]; rfl)).trans ((show g_27 131 2 = g_25 131 2 from (by rw [hg_27]; rfl)).trans ((show g_25 131 2 = g_23 131 2 from (by rw [hg_25]; rfl)).trans ((show g_23 131 2 = g_21 131 2 from (by rw [hg_23]; rfl)).trans ((show g_21 131 2 = g_19 131 2 from (by rw [hg_21]; rfl)).trans ((show g_19 131 2 = g_17 131 2 from (by rw [hg_19]; rfl)).trans ((show g_17 131 2 = g_15 131 2 from (by rw [hg_17]; rfl)).trans ((show g_15 131 2 = g_13 131 2 from (by rw [hg_15]; rfl)).trans ((show g_13 131 2 = g_11 131 2 from (by rw [hg_13]; rfl)).trans ((show g_11 131 2 = g_9 131 2 from (by rw [hg_11]; rfl)).trans ((show g_9 131 2 = g_7 131 2 from (by rw [hg_9]; rfl)).trans ((show g_7 131 2 = g_5 131 2 from (by rw [hg_7]; rfl)).trans ((show g_5 131 2 = g_3 131 2 from (by rw [hg_5]; rfl)).trans ((show g_3 131 2 = g_1 131 2 from (by rw [hg_3]; rfl)).trans ((show g_1 131 2 = g 131 2 from (by rw [hg_1]; rfl)).trans (hN0 _ _ _ _ rfl)))))))))))))))))))))))))) ?_
  refine zr_iast (r := 125) X hW dX0_copyFrom_54 (zc_s125 hS) rfl rfl (zi_vp (by decide)) (fun H locs hW => ?_)
  obtain ⟨g_49, hg_49⟩ : ∃ z : zm_T, z = zm_w g_47 125 2 (u 7 32) := ⟨_, rfl⟩
  have hW : zw_St Y N0 ad sh g_49 s H locs := by rw [hg_49]; exact hW
  obtain ⟨u_50, hu_50⟩ : ∃ z : zm_T, z = zm_w u_48 7 14 (u 7 32) := ⟨_, rfl⟩
  have hN : zc_N g_49 u_50 := by rw [hg_49, hu_50]; exact zc_Nw hN rfl _
  refine lv_iinc (v := 3) (lv' := [(3, .int 3), (2, .int 4), (0, .ref (ad 103)), (1, .ref (ad 104))]) X.1 X.2.1 dX0_copyFrom_55 hl (k := 0) rfl (by decide) (by decide) rfl (fun ls hl => ?_)
  refine lv_goto (tgt := 34) X.1 X.2.1 dX0_copyFrom_58 (by decide) ?_
  refine lv_iload_n X.1 X.2.1 dX0_copyFrom_34 rfl (lv_at hl 0 rfl) ?_
  refine lv_iconst (v := 3) X.1 X.2.1 dX0_copyFrom_35 (by decide) ?_
  refine zr_icmp_ge (a := 3) (b := 3) (tgt := 61) X dX0_copyFrom_36 (by decide) (by decide) (by decide) (fun _ => ?_) (fun c9 => absurd c9 (by decide))
  refine lv_iinc (v := 5) (lv' := [(2, .int 5), (3, .int 3), (0, .ref (ad 103)), (1, .ref (ad 104))]) X.1 X.2.1 dX0_copyFrom_61 hl (k := 1) rfl (by decide) (by decide) rfl (fun ls hl => ?_)
  refine lv_goto (tgt := 2) X.1 X.2.1 dX0_copyFrom_64 (by decide) ?_
  refine lv_iload_n X.1 X.2.1 dX0_copyFrom_2 rfl (lv_at hl 0 rfl) ?_
  refine lv_bipush (v := 6) X.1 X.2.1 dX0_copyFrom_3 (by decide) ?_
  refine zr_icmp_ge (a := 5) (b := 6) (tgt := 67) X dX0_copyFrom_5 (by decide) (by decide) (by decide) (fun c9 => absurd c9 (by decide)) (fun _ => ?_)
  refine lv_aload_n X.1 X.2.1 dX0_copyFrom_8 rfl (lv_at hl 2 rfl) ?_
  refine zr_get (r := 103) (v := .ref (ad 109)) X hW fs_X0_9_0 dX0_copyFrom_9 (zc_s103 hS) rfl rfl rfl ?_
  refine lv_iload_n X.1 X.2.1 dX0_copyFrom_12 rfl (lv_at hl 0 rfl) ?_
  refine lv_aload_n X.1 X.2.1 dX0_copyFrom_13 rfl (lv_at hl 3 rfl) ?_
  refine zr_get (r := 104) (v := .ref (ad 112)) X hW fs_X0_9_0 dX0_copyFrom_14 (zc_s104 hS) rfl rfl rfl ?_
  refine lv_iload_n X.1 X.2.1 dX0_copyFrom_17 rfl (lv_at hl 0 rfl) ?_
  refine zr_iald (r := 112) (v := u 5 11) X hW dX0_copyFrom_18 (zc_s112 hS) rfl rfl (zi_vp (by decide)) ((show g_49 112 (5 : Int32).toNatClampNeg = g_49 112 5 from rfl).trans ((show g_49 112 5 = g_47 112 5 from (by rw [hg_49]; rfl)).trans ((show g_47 112 5 = g_45 112 5 from (by rw [hg_47]; rfl)).trans ((show g_45 112 5 = g_43 112 5 from (by rw [hg_45]; rfl)).trans ((show g_43 112 5 = g_41 112 5 from (by rw [hg_43]; rfl)).trans ((show g_41 112 5 = g_39 112 5 from (by rw [hg_41]; rfl)).trans ((show g_39 112 5 = g_37 112 5 from (by rw [hg_39]; rfl)).trans ((show g_37 112 5 = g_35 112 5 from (by rw [hg_37]; rfl)).trans ((show g_35 112 5 = g_33 112 5 from (by rw [hg_35]; rfl)).trans ((show g_33 112 5 = g_31 112 5 from (by rw [hg_33]; rfl)).trans ((show g_31 112 5 = g_29 112 5 from (by rw [hg_31]; rfl)).trans ((show g_29 112 5 = g_27 112 5 from (by rw [hg_29]; rfl)).trans ((show g_27 112 5 = g_25 112 5 from (by rw [hg_27]; rfl)).trans ((show g_25 112 5 = g_23 112 5 from (by rw [hg_25]; rfl)).trans ((show g_23 112 5 = g_21 112 5 from (by rw [hg_23]; rfl)).trans ((show g_21 112 5 = g_19 112 5 from (by rw [hg_21]; rfl)).trans ((show g_19 112 5 = g_17 112 5 from (by rw [hg_19]; rfl)).trans ((show g_17 112 5 = g_15 112 5 from (by rw [hg_17]; rfl)).trans ((show g_15 112 5 = g_13 112 5 from (by rw [hg_15]; rfl)).trans ((show g_13 112 5 = g_11 112 5 from (by rw [hg_13]; rfl)).trans ((show g_11 112 5 = g_9 112 5 from (by rw [hg_11]; rfl)).trans ((show g_9 112 5 = g_7 112 5 from (by rw [hg_9]; rfl)).trans ((show g_7 112 5 = g_5 112 5 from (by rw [hg_7]; rfl)).trans ((show g_5 112 5 = g_3 112 5 from (by rw [hg_5]; rfl)).trans ((show g_3 112 5 = g_1 112 5 from (by rw [hg_3]; rfl)).trans ((show g_1 112 5 = g 112 5 from (by rw [hg_1]; rfl)).trans (hN0 _ _ _ _ rfl))))))))))))))))))))))))))) ?_
  refine zr_iast (r := 109) X hW dX0_copyFrom_19 (zc_s109 hS) rfl rfl (zi_vp (by decide)) (fun H locs hW => ?_)
  obtain ⟨g_51, hg_51⟩ : ∃ z : zm_T, z = zm_w g_49 109 5 (u 5 11) := ⟨_, rfl⟩
  have hW : zw_St Y N0 ad sh g_51 s H locs := by rw [hg_51]; exact hW
  obtain ⟨u_52, hu_52⟩ : ∃ z : zm_T, z = zm_w u_50 5 5 (u 5 11) := ⟨_, rfl⟩
  have hN : zc_N g_51 u_52 := by rw [hg_51, hu_52]; exact zc_Nw hN rfl _
  refine lv_aload_n X.1 X.2.1 dX0_copyFrom_20 rfl (lv_at hl 2 rfl) ?_
  refine zr_get (r := 103) (v := .ref (ad 110)) X hW fs_X0_15_0 dX0_copyFrom_21 (zc_s103 hS) rfl rfl rfl ?_
  refine lv_iload_n X.1 X.2.1 dX0_copyFrom_24 rfl (lv_at hl 0 rfl) ?_
  refine lv_aload_n X.1 X.2.1 dX0_copyFrom_25 rfl (lv_at hl 3 rfl) ?_
  refine zr_get (r := 104) (v := .ref (ad 113)) X hW fs_X0_15_0 dX0_copyFrom_26 (zc_s104 hS) rfl rfl rfl ?_
  refine lv_iload_n X.1 X.2.1 dX0_copyFrom_29 rfl (lv_at hl 0 rfl) ?_
  refine zr_iald (r := 113) (v := u 6 11) X hW dX0_copyFrom_30 (zc_s113 hS) rfl rfl (zi_vp (by decide)) ((show g_51 113 (5 : Int32).toNatClampNeg = g_51 113 5 from rfl).trans ((show g_51 113 5 = g_49 113 5 from (by rw [hg_51]; rfl)).trans ((show g_49 113 5 = g_47 113 5 from (by rw [hg_49]; rfl)).trans ((show g_47 113 5 = g_45 113 5 from (by rw [hg_47]; rfl)).trans ((show g_45 113 5 = g_43 113 5 from (by rw [hg_45]; rfl)).trans ((show g_43 113 5 = g_41 113 5 from (by rw [hg_43]; rfl)).trans ((show g_41 113 5 = g_39 113 5 from (by rw [hg_41]; rfl)).trans ((show g_39 113 5 = g_37 113 5 from (by rw [hg_39]; rfl)).trans ((show g_37 113 5 = g_35 113 5 from (by rw [hg_37]; rfl)).trans ((show g_35 113 5 = g_33 113 5 from (by rw [hg_35]; rfl)).trans ((show g_33 113 5 = g_31 113 5 from (by rw [hg_33]; rfl)).trans ((show g_31 113 5 = g_29 113 5 from (by rw [hg_31]; rfl)).trans ((show g_29 113 5 = g_27 113 5 from (by rw [hg_29]; rfl)).trans ((show g_27 113 5 = g_25 113 5 from (by rw [hg_27]; rfl)).trans ((show g_25 113 5 = g_23 113 5 from (by rw [hg_25]; rfl)).trans ((show g_23 113 5 = g_21 113 5 from (by rw [hg_23]; rfl)).trans ((show g_21 113 5 = g_19 113 5 from (by rw [hg_21]; rfl)).trans ((show g_19 113 5 = g_17 113 5 from (by rw [hg_19]; rfl)).trans ((show g_17 113 5 = g_15 113 5 from (by rw [hg_17]; rfl)).trans ((show g_15 113 5 = g_13 113 5 from (by rw [hg_15]; rfl)).trans ((show g_13 113 5 = g_11 113 5 from (by rw [hg_13]; rfl)).trans ((show g_11 113 5 = g_9 113 5 from (by rw [hg_11]; rfl)).trans ((show g_9 113 5 = g_7 113 5 from (by rw [hg_9]; rfl)).trans ((show g_7 113 5 = g_5 113 5 from (by rw [hg_7]; rfl)).trans ((show g_5 113 5 = g_3 113 5 from (by rw [hg_5]; rfl)).trans ((show g_3 113 5 = g_1 113 5 from (by rw [hg_3]; rfl)).trans ((show g_1 113 5 = g 113 5 from (by rw [hg_1]; rfl)).trans (hN0 _ _ _ _ rfl)))))))))))))))))))))))))))) ?_
  refine zr_iast (r := 110) X hW dX0_copyFrom_31 (zc_s110 hS) rfl rfl (zi_vp (by decide)) (fun H locs hW => ?_)
  obtain ⟨g_53, hg_53⟩ : ∃ z : zm_T, z = zm_w g_51 110 5 (u 6 11) := ⟨_, rfl⟩
  have hW : zw_St Y N0 ad sh g_53 s H locs := by rw [hg_53]; exact hW
  obtain ⟨u_54, hu_54⟩ : ∃ z : zm_T, z = zm_w u_52 6 5 (u 6 11) := ⟨_, rfl⟩
  have hN : zc_N g_53 u_54 := by rw [hg_53, hu_54]; exact zc_Nw hN rfl _
  refine lv_iconst (v := 0) X.1 X.2.1 dX0_copyFrom_32 (by decide) ?_
  refine lv_istore_n (lv' := [(3, .int 0), (2, .int 5), (0, .ref (ad 103)), (1, .ref (ad 104))]) X.1 X.2.1 dX0_copyFrom_33 rfl hl (by decide) rfl (fun ls hl => ?_)
  refine lv_iload_n X.1 X.2.1 dX0_copyFrom_34 rfl (lv_at hl 0 rfl) ?_
  refine lv_iconst (v := 3) X.1 X.2.1 dX0_copyFrom_35 (by decide) ?_
  refine zr_icmp_ge (a := 0) (b := 3) (tgt := 61) X dX0_copyFrom_36 (by decide) (by decide) (by decide) (fun c9 => absurd c9 (by decide)) (fun _ => ?_)
  refine lv_aload_n X.1 X.2.1 dX0_copyFrom_39 rfl (lv_at hl 2 rfl) ?_
  refine zr_get (r := 103) (v := .ref (ad 111)) X hW fs_X0_20_0 dX0_copyFrom_40 (zc_s103 hS) rfl rfl rfl ?_
  refine lv_iload_n X.1 X.2.1 dX0_copyFrom_43 rfl (lv_at hl 1 rfl) ?_
  refine zr_aald (r := 111) (v := .ref (ad 126)) X hW dX0_copyFrom_44 (zc_s111 hS) rfl rfl rfl (zi_vp (by decide)) rfl ?_
  refine lv_iload_n X.1 X.2.1 dX0_copyFrom_45 rfl (lv_at hl 0 rfl) ?_
  refine lv_aload_n X.1 X.2.1 dX0_copyFrom_46 rfl (lv_at hl 3 rfl) ?_
  refine zr_get (r := 104) (v := .ref (ad 114)) X hW fs_X0_20_0 dX0_copyFrom_47 (zc_s104 hS) rfl rfl rfl ?_
  refine lv_iload_n X.1 X.2.1 dX0_copyFrom_50 rfl (lv_at hl 1 rfl) ?_
  refine zr_aald (r := 114) (v := .ref (ad 132)) X hW dX0_copyFrom_51 (zc_s114 hS) rfl rfl rfl (zi_vp (by decide)) rfl ?_
  refine lv_iload_n X.1 X.2.1 dX0_copyFrom_52 rfl (lv_at hl 0 rfl) ?_
  refine zr_iald (r := 132) (v := u 7 33) X hW dX0_copyFrom_53 (zc_s132 hS) rfl rfl (zi_vp (by decide)) ((show g_53 132 (0 : Int32).toNatClampNeg = g_53 132 0 from rfl).trans ((show g_53 132 0 = g_51 132 0 from (by rw [hg_53]; rfl)).trans ((show g_51 132 0 = g_49 132 0 from (by rw [hg_51]; rfl)).trans ((show g_49 132 0 = g_47 132 0 from (by rw [hg_49]; rfl)).trans ((show g_47 132 0 = g_45 132 0 from (by rw [hg_47]; rfl)).trans ((show g_45 132 0 = g_43 132 0 from (by rw [hg_45]; rfl)).trans ((show g_43 132 0 = g_41 132 0 from (by rw [hg_43]; rfl)).trans ((show g_41 132 0 = g_39 132 0 from (by rw [hg_41]; rfl)).trans ((show g_39 132 0 = g_37 132 0 from (by rw [hg_39]; rfl)).trans ((show g_37 132 0 = g_35 132 0 from (by rw [hg_37]; rfl)).trans ((show g_35 132 0 = g_33 132 0 from (by rw [hg_35]; rfl)).trans ((show g_33 132 0 = g_31 132 0 from (by rw [hg_33]; rfl)).trans ((show g_31 132 0 = g_29 132 0 from (by rw [hg_31]; rfl)).trans ((show g_29 132 0 = g_27 132 0 from (by rw [hg_29]; rfl)).trans ((show g_27 132 0 = g_25 132 0 from (by rw [hg_27]; rfl)).trans ((show g_25 132 0 = g_23 132 0 from (by rw [hg_25]; rfl)).trans ((show g_23 132 0 = g_21 132 0 from (by rw [hg_23]; rfl)).trans ((show g_21 132 0 = g_19 132 0 from (by rw [hg_21]; rfl)).trans ((show g_19 132 0 = g_17 132 0 from (by rw [hg_19]; rfl)).trans ((show g_17 132 0 = g_15 132 0 from (by rw [hg_17]; rfl)).trans ((show g_15 132 0 = g_13 132 0 from (by rw [hg_15]; rfl)).trans ((show g_13 132 0 = g_11 132 0 from (by rw [hg_13]; rfl)).trans ((show g_11 132 0 = g_9 132 0 from (by rw [hg_11]; rfl)).trans ((show g_9 132 0 = g_7 132 0 from (by rw [hg_9]; rfl)).trans ((show g_7 132 0 = g_5 132 0 from (by rw [hg_7]; rfl)).trans ((show g_5 132 0 = g_3 132 0 from (by rw [hg_5]; rfl)).trans ((show g_3 132 0 = g_1 132 0 from (by rw [hg_3]; rfl)).trans ((show g_1 132 0 = g 132 0 from (by rw [hg_1]; rfl)).trans (hN0 _ _ _ _ rfl))))))))))))))))))))))))))))) ?_
  refine zr_iast (r := 126) X hW dX0_copyFrom_54 (zc_s126 hS) rfl rfl (zi_vp (by decide)) (fun H locs hW => ?_)
  obtain ⟨g_55, hg_55⟩ : ∃ z : zm_T, z = zm_w g_53 126 0 (u 7 33) := ⟨_, rfl⟩
  have hW : zw_St Y N0 ad sh g_55 s H locs := by rw [hg_55]; exact hW
  obtain ⟨u_56, hu_56⟩ : ∃ z : zm_T, z = zm_w u_54 7 15 (u 7 33) := ⟨_, rfl⟩
  have hN : zc_N g_55 u_56 := by rw [hg_55, hu_56]; exact zc_Nw hN rfl _
  refine lv_iinc (v := 1) (lv' := [(3, .int 1), (2, .int 5), (0, .ref (ad 103)), (1, .ref (ad 104))]) X.1 X.2.1 dX0_copyFrom_55 hl (k := 0) rfl (by decide) (by decide) rfl (fun ls hl => ?_)
  refine lv_goto (tgt := 34) X.1 X.2.1 dX0_copyFrom_58 (by decide) ?_
  refine lv_iload_n X.1 X.2.1 dX0_copyFrom_34 rfl (lv_at hl 0 rfl) ?_
  refine lv_iconst (v := 3) X.1 X.2.1 dX0_copyFrom_35 (by decide) ?_
  refine zr_icmp_ge (a := 1) (b := 3) (tgt := 61) X dX0_copyFrom_36 (by decide) (by decide) (by decide) (fun c9 => absurd c9 (by decide)) (fun _ => ?_)
  refine lv_aload_n X.1 X.2.1 dX0_copyFrom_39 rfl (lv_at hl 2 rfl) ?_
  refine zr_get (r := 103) (v := .ref (ad 111)) X hW fs_X0_20_0 dX0_copyFrom_40 (zc_s103 hS) rfl rfl rfl ?_
  refine lv_iload_n X.1 X.2.1 dX0_copyFrom_43 rfl (lv_at hl 1 rfl) ?_
  refine zr_aald (r := 111) (v := .ref (ad 126)) X hW dX0_copyFrom_44 (zc_s111 hS) rfl rfl rfl (zi_vp (by decide)) rfl ?_
  refine lv_iload_n X.1 X.2.1 dX0_copyFrom_45 rfl (lv_at hl 0 rfl) ?_
  refine lv_aload_n X.1 X.2.1 dX0_copyFrom_46 rfl (lv_at hl 3 rfl) ?_
  refine zr_get (r := 104) (v := .ref (ad 114)) X hW fs_X0_20_0 dX0_copyFrom_47 (zc_s104 hS) rfl rfl rfl ?_
  refine lv_iload_n X.1 X.2.1 dX0_copyFrom_50 rfl (lv_at hl 1 rfl) ?_
  refine zr_aald (r := 114) (v := .ref (ad 132)) X hW dX0_copyFrom_51 (zc_s114 hS) rfl rfl rfl (zi_vp (by decide)) rfl ?_
  refine lv_iload_n X.1 X.2.1 dX0_copyFrom_52 rfl (lv_at hl 0 rfl) ?_
  refine zr_iald (r := 132) (v := u 7 34) X hW dX0_copyFrom_53 (zc_s132 hS) rfl rfl (zi_vp (by decide)) ((show g_55 132 (1 : Int32).toNatClampNeg = g_55 132 1 from rfl).trans ((show g_55 132 1 = g_53 132 1 from (by rw [hg_55]; rfl)).trans ((show g_53 132 1 = g_51 132 1 from (by rw [hg_53]; rfl)).trans ((show g_51 132 1 = g_49 132 1 from (by rw [hg_51]; rfl)).trans ((show g_49 132 1 = g_47 132 1 from (by rw [hg_49]; rfl)).trans ((show g_47 132 1 = g_45 132 1 from (by rw [hg_47]; rfl)).trans ((show g_45 132 1 = g_43 132 1 from (by rw [hg_45]; rfl)).trans ((show g_43 132 1 = g_41 132 1 from (by rw [hg_43]; rfl)).trans ((show g_41 132 1 = g_39 132 1 from (by rw [hg_41]; rfl)).trans ((show g_39 132 1 = g_37 132 1 from (by rw [hg_39]; rfl)).trans ((show g_37 132 1 = g_35 132 1 from (by rw [hg_37]; rfl)).trans ((show g_35 132 1 = g_33 132 1 from (by rw [hg_35]; rfl)).trans ((show g_33 132 1 = g_31 132 1 from (by rw [hg_33]; rfl)).trans ((show g_31 132 1 = g_29 132 1 from (by rw [hg_31]; rfl)).trans ((show g_29 132 1 = g_27 132 1 from (by rw [hg_29]; rfl)).trans ((show g_27 132 1 = g_25 132 1 from (by rw [hg_27]; rfl)).trans ((show g_25 132 1 = g_23 132 1 from (by rw [hg_25]; rfl)).trans ((show g_23 132 1 = g_21 132 1 from (by rw [hg_23]; rfl)).trans ((show g_21 132 1 = g_19 132 1 from (by rw [hg_21]; rfl)).trans ((show g_19 132 1 = g_17 132 1 from (by rw [hg_19]; rfl)).trans ((show g_17 132 1 = g_15 132 1 from (by rw [hg_17]; rfl)).trans ((show g_15 132 1 = g_13 132 1 from (by rw [hg_15]; rfl)).trans ((show g_13 132 1 = g_11 132 1 from (by rw [hg_13]; rfl)).trans ((show g_11 132 1 = g_9 132 1 from (by rw [hg_11]; rfl)).trans ((show g_9 132 1 = g_7 132 1 from (by rw [hg_9]; rfl)).trans ((show g_7 132 1 = g_5 132 1 from (by rw [hg_7]; rfl)).trans ((show g_5 132 1 = g_3 132 1 from (by rw [hg_5]; rfl)).trans ((show g_3 132 1 = g_1 132 1 from (by rw [hg_3]; rfl)).trans ((show g_1 132 1 = g 132 1 from (by rw [hg_1]; rfl)).trans (hN0 _ _ _ _ rfl)))))))))))))))))))))))))))))) ?_
  refine zr_iast (r := 126) X hW dX0_copyFrom_54 (zc_s126 hS) rfl rfl (zi_vp (by decide)) (fun H locs hW => ?_)
  obtain ⟨g_57, hg_57⟩ : ∃ z : zm_T, z = zm_w g_55 126 1 (u 7 34) := ⟨_, rfl⟩
  have hW : zw_St Y N0 ad sh g_57 s H locs := by rw [hg_57]; exact hW
  obtain ⟨u_58, hu_58⟩ : ∃ z : zm_T, z = zm_w u_56 7 16 (u 7 34) := ⟨_, rfl⟩
  have hN : zc_N g_57 u_58 := by rw [hg_57, hu_58]; exact zc_Nw hN rfl _
  refine lv_iinc (v := 2) (lv' := [(3, .int 2), (2, .int 5), (0, .ref (ad 103)), (1, .ref (ad 104))]) X.1 X.2.1 dX0_copyFrom_55 hl (k := 0) rfl (by decide) (by decide) rfl (fun ls hl => ?_)
  refine lv_goto (tgt := 34) X.1 X.2.1 dX0_copyFrom_58 (by decide) ?_
  refine lv_iload_n X.1 X.2.1 dX0_copyFrom_34 rfl (lv_at hl 0 rfl) ?_
  refine lv_iconst (v := 3) X.1 X.2.1 dX0_copyFrom_35 (by decide) ?_
  refine zr_icmp_ge (a := 2) (b := 3) (tgt := 61) X dX0_copyFrom_36 (by decide) (by decide) (by decide) (fun c9 => absurd c9 (by decide)) (fun _ => ?_)
  refine lv_aload_n X.1 X.2.1 dX0_copyFrom_39 rfl (lv_at hl 2 rfl) ?_
  refine zr_get (r := 103) (v := .ref (ad 111)) X hW fs_X0_20_0 dX0_copyFrom_40 (zc_s103 hS) rfl rfl rfl ?_
  refine lv_iload_n X.1 X.2.1 dX0_copyFrom_43 rfl (lv_at hl 1 rfl) ?_
  refine zr_aald (r := 111) (v := .ref (ad 126)) X hW dX0_copyFrom_44 (zc_s111 hS) rfl rfl rfl (zi_vp (by decide)) rfl ?_
  refine lv_iload_n X.1 X.2.1 dX0_copyFrom_45 rfl (lv_at hl 0 rfl) ?_
  refine lv_aload_n X.1 X.2.1 dX0_copyFrom_46 rfl (lv_at hl 3 rfl) ?_
  refine zr_get (r := 104) (v := .ref (ad 114)) X hW fs_X0_20_0 dX0_copyFrom_47 (zc_s104 hS) rfl rfl rfl ?_
  refine lv_iload_n X.1 X.2.1 dX0_copyFrom_50 rfl (lv_at hl 1 rfl) ?_
  refine zr_aald (r := 114) (v := .ref (ad 132)) X hW dX0_copyFrom_51 (zc_s114 hS) rfl rfl rfl (zi_vp (by decide)) rfl ?_
  refine lv_iload_n X.1 X.2.1 dX0_copyFrom_52 rfl (lv_at hl 0 rfl) ?_
  refine zr_iald (r := 132) (v := u 7 35) X hW dX0_copyFrom_53 (zc_s132 hS) rfl rfl (zi_vp (by decide)) ((show g_57 132 (2 : Int32).toNatClampNeg = g_57 132 2 from rfl).trans ((show g_57 132 2 = g_55 132 2 from (by rw [hg_57]; rfl)).trans ((show g_55 132 2 = g_53 132 2 from (by rw [hg_55]; rfl)).trans ((show g_53 132 2 = g_51 132 2 from (by rw [hg_53]; rfl)).trans ((show g_51 132 2 = g_49 132 2 from (by rw [hg_51]; rfl)).trans ((show g_49 132 2 = g_47 132 2 from (by rw [hg_49]; rfl)).trans ((show g_47 132 2 = g_45 132 2 from (by rw [hg_47]; rfl)).trans ((show g_45 132 2 = g_43 132 2 from (by rw [hg_45]; rfl)).trans ((show g_43 132 2 = g_41 132 2 from (by rw [hg_43]; rfl)).trans ((show g_41 132 2 = g_39 132 2 from (by rw [hg_41]; rfl)).trans ((show g_39 132 2 = g_37 132 2 from (by rw [hg_39]; rfl)).trans ((show g_37 132 2 = g_35 132 2 from (by rw [hg_37]; rfl)).trans ((show g_35 132 2 = g_33 132 2 from (by rw [hg_35]; rfl)).trans ((show g_33 132 2 = g_31 132 2 from (by rw [hg_33]; rfl)).trans ((show g_31 132 2 = g_29 132 2 from (by rw [hg_31]; rfl)).trans ((show g_29 132 2 = g_27 132 2 from (by rw [hg_29]; rfl)).trans ((show g_27 132 2 = g_25 132 2 from (by rw [hg_27]; rfl)).trans ((show g_25 132 2 = g_23 132 2 from (by rw [hg_25]; rfl)).trans ((show g_23 132 2 = g_21 132 2 from (by rw [hg_23]; rfl)).trans ((show g_21 132 2 = g_19 132 2 from (by rw [hg_21]; rfl)).trans ((show g_19 132 2 = g_17 132 2 from (by rw [hg_19]; rfl)).trans ((show g_17 132 2 = g_15 132 2 from (by rw [hg_17]; rfl)).trans ((show g_15 132 2 = g_13 132 2 from (by rw [hg_15]; rfl)).trans ((show g_13 132 2 = g_11 132 2 from (by rw [hg_13]; rfl)).trans ((show g_11 132 2 = g_9 132 2 from (by rw [hg_11]; rfl)).trans ((show g_9 132 2 = g_7 132 2 from (by rw [hg_9]; rfl)).trans ((show g_7 132 2 = g_5 132 2 from (by rw [hg_7]; rfl)).trans ((show g_5 132 2 = g_3 132 2 from (by rw [hg_5]; rfl)).trans ((show g_3 132 2 = g_1 132 2 from (by rw [hg_3]; rfl)).trans ((show g_1 132 2 = g 132 2 from (by rw [hg_1]; rfl)).trans (hN0 _ _ _ _ rfl))))))))))))))))))))))))))))))) ?_
  refine zr_iast (r := 126) X hW dX0_copyFrom_54 (zc_s126 hS) rfl rfl (zi_vp (by decide)) (fun H locs hW => ?_)
  obtain ⟨g_59, hg_59⟩ : ∃ z : zm_T, z = zm_w g_57 126 2 (u 7 35) := ⟨_, rfl⟩
  have hW : zw_St Y N0 ad sh g_59 s H locs := by rw [hg_59]; exact hW
  obtain ⟨u_60, hu_60⟩ : ∃ z : zm_T, z = zm_w u_58 7 17 (u 7 35) := ⟨_, rfl⟩
  have hN : zc_N g_59 u_60 := by rw [hg_59, hu_60]; exact zc_Nw hN rfl _
  refine lv_iinc (v := 3) (lv' := [(3, .int 3), (2, .int 5), (0, .ref (ad 103)), (1, .ref (ad 104))]) X.1 X.2.1 dX0_copyFrom_55 hl (k := 0) rfl (by decide) (by decide) rfl (fun ls hl => ?_)
  refine lv_goto (tgt := 34) X.1 X.2.1 dX0_copyFrom_58 (by decide) ?_
  refine lv_iload_n X.1 X.2.1 dX0_copyFrom_34 rfl (lv_at hl 0 rfl) ?_
  refine lv_iconst (v := 3) X.1 X.2.1 dX0_copyFrom_35 (by decide) ?_
  refine zr_icmp_ge (a := 3) (b := 3) (tgt := 61) X dX0_copyFrom_36 (by decide) (by decide) (by decide) (fun _ => ?_) (fun c9 => absurd c9 (by decide))
  refine lv_iinc (v := 6) (lv' := [(2, .int 6), (3, .int 3), (0, .ref (ad 103)), (1, .ref (ad 104))]) X.1 X.2.1 dX0_copyFrom_61 hl (k := 1) rfl (by decide) (by decide) rfl (fun ls hl => ?_)
  refine lv_goto (tgt := 2) X.1 X.2.1 dX0_copyFrom_64 (by decide) ?_
  refine lv_iload_n X.1 X.2.1 dX0_copyFrom_2 rfl (lv_at hl 0 rfl) ?_
  refine lv_bipush (v := 6) X.1 X.2.1 dX0_copyFrom_3 (by decide) ?_
  refine zr_icmp_ge (a := 6) (b := 6) (tgt := 67) X dX0_copyFrom_5 (by decide) (by decide) (by decide) (fun _ => ?_) (fun c9 => absurd c9 (by decide))
  have e9 : u_60 = zs_cp u 6 0 := by rw [hu_60, hu_58, hu_56, hu_54, hu_52, hu_50, hu_48, hu_46, hu_44, hu_42, hu_40, hu_38, hu_36, hu_34, hu_32, hu_30, hu_28, hu_26, hu_24, hu_22, hu_20, hu_18, hu_16, hu_14, hu_12, hu_10, hu_8, hu_6, hu_4, hu_2, ← zs_cpk6, ← zs_cpks, ← zs_cpks, ← zs_cpks, ← zs_cpks, ← zs_cpks, ← zs_cpks, zs_cpk0]
  exact zr_vret X hW dX0_copyFrom_67 (Nat.le_refl _) (Nat.le_refl _) ⟨rfl, rfl, rfl, by rw [← e9]; exact hN, fun r hr => by rw [hg_59, hg_57, hg_55, hg_53, hg_51, hg_49, hg_47, hg_45, hg_43, hg_41, hg_39, hg_37, hg_35, hg_33, hg_31, hg_29, hg_27, hg_25, hg_23, hg_21, hg_19, hg_17, hg_15, hg_13, hg_11, hg_9, hg_7, hg_5, hg_3, hg_1, zm_wr (by omega), zm_wr (by omega), zm_wr (by omega), zm_wr (by omega), zm_wr (by omega), zm_wr (by omega), zm_wr (by omega), zm_wr (by omega), zm_wr (by omega), zm_wr (by omega), zm_wr (by omega), zm_wr (by omega), zm_wr (by omega), zm_wr (by omega), zm_wr (by omega), zm_wr (by omega), zm_wr (by omega), zm_wr (by omega), zm_wr (by omega), zm_wr (by omega), zm_wr (by omega), zm_wr (by omega), zm_wr (by omega), zm_wr (by omega), zm_wr (by omega), zm_wr (by omega), zm_wr (by omega), zm_wr (by omega), zm_wr (by omega), zm_wr (by omega)]⟩

set_option maxHeartbeats 4000000 in
set_option maxRecDepth 100000 in
theorem c_X0_copyFrom_s (l : Launch) (Y : zw_Y) (N0 : Nat) (ad : Nat → Nat) (sh : Nat → Option zw_Sh) (g u : zm_T) (hS : zc_S sh) (hN : zc_N g u) : zw_Met l Y N0 yX0_copyFrom cX0_copyFrom 4 none 0 0 0 0 ad sh g [.ref (ad 104), .ref (ad 103)] (zp_G ad sh (fun v g' => v = none ∧ zc_N g' (zs_cp u 0 6) ∧ zc_bf g g')) := by
  refine zw_meth (by decide) (Nat.le_of_ble_eq_true rfl) ?_
  intro p e s m below meth c ls X hnm hl hW
  have hl : lv_has ls 4 [(0, .ref (ad 104)), (1, .ref (ad 103))] := hl
  have hN0 := hN
  refine lv_iconst (v := 0) X.1 X.2.1 dX0_copyFrom_0 (by decide) ?_
  refine lv_istore_n (lv' := [(2, .int 0), (0, .ref (ad 104)), (1, .ref (ad 103))]) X.1 X.2.1 dX0_copyFrom_1 rfl hl (by decide) rfl (fun ls hl => ?_)
  refine lv_iload_n X.1 X.2.1 dX0_copyFrom_2 rfl (lv_at hl 0 rfl) ?_
  refine lv_bipush (v := 6) X.1 X.2.1 dX0_copyFrom_3 (by decide) ?_
  refine zr_icmp_ge (a := 0) (b := 6) (tgt := 67) X dX0_copyFrom_5 (by decide) (by decide) (by decide) (fun c9 => absurd c9 (by decide)) (fun _ => ?_)
  refine lv_aload_n X.1 X.2.1 dX0_copyFrom_8 rfl (lv_at hl 1 rfl) ?_
  refine zr_get (r := 104) (v := .ref (ad 112)) X hW fs_X0_9_0 dX0_copyFrom_9 (zc_s104 hS) rfl rfl rfl ?_
  refine lv_iload_n X.1 X.2.1 dX0_copyFrom_12 rfl (lv_at hl 0 rfl) ?_
  refine lv_aload_n X.1 X.2.1 dX0_copyFrom_13 rfl (lv_at hl 2 rfl) ?_
  refine zr_get (r := 103) (v := .ref (ad 109)) X hW fs_X0_9_0 dX0_copyFrom_14 (zc_s103 hS) rfl rfl rfl ?_
  refine lv_iload_n X.1 X.2.1 dX0_copyFrom_17 rfl (lv_at hl 0 rfl) ?_
  refine zr_iald (r := 109) (v := u 5 0) X hW dX0_copyFrom_18 (zc_s109 hS) rfl rfl (zi_vp (by decide)) ((show g 109 (0 : Int32).toNatClampNeg = g 109 0 from rfl).trans (hN0 _ _ _ _ rfl)) ?_
  refine zr_iast (r := 112) X hW dX0_copyFrom_19 (zc_s112 hS) rfl rfl (zi_vp (by decide)) (fun H locs hW => ?_)
  obtain ⟨g_1, hg_1⟩ : ∃ z : zm_T, z = zm_w g 112 0 (u 5 0) := ⟨_, rfl⟩
  have hW : zw_St Y N0 ad sh g_1 s H locs := by rw [hg_1]; exact hW
  obtain ⟨u_2, hu_2⟩ : ∃ z : zm_T, z = zm_w u 5 6 (u 5 0) := ⟨_, rfl⟩
  have hN : zc_N g_1 u_2 := by rw [hg_1, hu_2]; exact zc_Nw hN rfl _
  refine lv_aload_n X.1 X.2.1 dX0_copyFrom_20 rfl (lv_at hl 1 rfl) ?_
  refine zr_get (r := 104) (v := .ref (ad 113)) X hW fs_X0_15_0 dX0_copyFrom_21 (zc_s104 hS) rfl rfl rfl ?_
  refine lv_iload_n X.1 X.2.1 dX0_copyFrom_24 rfl (lv_at hl 0 rfl) ?_
  refine lv_aload_n X.1 X.2.1 dX0_copyFrom_25 rfl (lv_at hl 2 rfl) ?_
  refine zr_get (r := 103) (v := .ref (ad 110)) X hW fs_X0_15_0 dX0_copyFrom_26 (zc_s103 hS) rfl rfl rfl ?_
  refine lv_iload_n X.1 X.2.1 dX0_copyFrom_29 rfl (lv_at hl 0 rfl) ?_
  refine zr_iald (r := 110) (v := u 6 0) X hW dX0_copyFrom_30 (zc_s110 hS) rfl rfl (zi_vp (by decide)) ((show g_1 110 (0 : Int32).toNatClampNeg = g_1 110 0 from rfl).trans ((show g_1 110 0 = g 110 0 from (by rw [hg_1]; rfl)).trans (hN0 _ _ _ _ rfl))) ?_
  refine zr_iast (r := 113) X hW dX0_copyFrom_31 (zc_s113 hS) rfl rfl (zi_vp (by decide)) (fun H locs hW => ?_)
  obtain ⟨g_3, hg_3⟩ : ∃ z : zm_T, z = zm_w g_1 113 0 (u 6 0) := ⟨_, rfl⟩
  have hW : zw_St Y N0 ad sh g_3 s H locs := by rw [hg_3]; exact hW
  obtain ⟨u_4, hu_4⟩ : ∃ z : zm_T, z = zm_w u_2 6 6 (u 6 0) := ⟨_, rfl⟩
  have hN : zc_N g_3 u_4 := by rw [hg_3, hu_4]; exact zc_Nw hN rfl _
  refine lv_iconst (v := 0) X.1 X.2.1 dX0_copyFrom_32 (by decide) ?_
  refine lv_istore_n (lv' := [(3, .int 0), (2, .int 0), (0, .ref (ad 104)), (1, .ref (ad 103))]) X.1 X.2.1 dX0_copyFrom_33 rfl hl (by decide) rfl (fun ls hl => ?_)
  refine lv_iload_n X.1 X.2.1 dX0_copyFrom_34 rfl (lv_at hl 0 rfl) ?_
  refine lv_iconst (v := 3) X.1 X.2.1 dX0_copyFrom_35 (by decide) ?_
  refine zr_icmp_ge (a := 0) (b := 3) (tgt := 61) X dX0_copyFrom_36 (by decide) (by decide) (by decide) (fun c9 => absurd c9 (by decide)) (fun _ => ?_)
  refine lv_aload_n X.1 X.2.1 dX0_copyFrom_39 rfl (lv_at hl 2 rfl) ?_
  refine zr_get (r := 104) (v := .ref (ad 114)) X hW fs_X0_20_0 dX0_copyFrom_40 (zc_s104 hS) rfl rfl rfl ?_
  refine lv_iload_n X.1 X.2.1 dX0_copyFrom_43 rfl (lv_at hl 1 rfl) ?_
  refine zr_aald (r := 114) (v := .ref (ad 127)) X hW dX0_copyFrom_44 (zc_s114 hS) rfl rfl rfl (zi_vp (by decide)) rfl ?_
  refine lv_iload_n X.1 X.2.1 dX0_copyFrom_45 rfl (lv_at hl 0 rfl) ?_
  refine lv_aload_n X.1 X.2.1 dX0_copyFrom_46 rfl (lv_at hl 3 rfl) ?_
  refine zr_get (r := 103) (v := .ref (ad 111)) X hW fs_X0_20_0 dX0_copyFrom_47 (zc_s103 hS) rfl rfl rfl ?_
  refine lv_iload_n X.1 X.2.1 dX0_copyFrom_50 rfl (lv_at hl 1 rfl) ?_
  refine zr_aald (r := 111) (v := .ref (ad 121)) X hW dX0_copyFrom_51 (zc_s111 hS) rfl rfl rfl (zi_vp (by decide)) rfl ?_
  refine lv_iload_n X.1 X.2.1 dX0_copyFrom_52 rfl (lv_at hl 0 rfl) ?_
  refine zr_iald (r := 121) (v := u 7 0) X hW dX0_copyFrom_53 (zc_s121 hS) rfl rfl (zi_vp (by decide)) ((show g_3 121 (0 : Int32).toNatClampNeg = g_3 121 0 from rfl).trans ((show g_3 121 0 = g_1 121 0 from (by rw [hg_3]; rfl)).trans ((show g_1 121 0 = g 121 0 from (by rw [hg_1]; rfl)).trans (hN0 _ _ _ _ rfl)))) ?_
  refine zr_iast (r := 127) X hW dX0_copyFrom_54 (zc_s127 hS) rfl rfl (zi_vp (by decide)) (fun H locs hW => ?_)
  obtain ⟨g_5, hg_5⟩ : ∃ z : zm_T, z = zm_w g_3 127 0 (u 7 0) := ⟨_, rfl⟩
  have hW : zw_St Y N0 ad sh g_5 s H locs := by rw [hg_5]; exact hW
  obtain ⟨u_6, hu_6⟩ : ∃ z : zm_T, z = zm_w u_4 7 18 (u 7 0) := ⟨_, rfl⟩
  have hN : zc_N g_5 u_6 := by rw [hg_5, hu_6]; exact zc_Nw hN rfl _
  refine lv_iinc (v := 1) (lv' := [(3, .int 1), (2, .int 0), (0, .ref (ad 104)), (1, .ref (ad 103))]) X.1 X.2.1 dX0_copyFrom_55 hl (k := 0) rfl (by decide) (by decide) rfl (fun ls hl => ?_)
  refine lv_goto (tgt := 34) X.1 X.2.1 dX0_copyFrom_58 (by decide) ?_
  refine lv_iload_n X.1 X.2.1 dX0_copyFrom_34 rfl (lv_at hl 0 rfl) ?_
  refine lv_iconst (v := 3) X.1 X.2.1 dX0_copyFrom_35 (by decide) ?_
  refine zr_icmp_ge (a := 1) (b := 3) (tgt := 61) X dX0_copyFrom_36 (by decide) (by decide) (by decide) (fun c9 => absurd c9 (by decide)) (fun _ => ?_)
  refine lv_aload_n X.1 X.2.1 dX0_copyFrom_39 rfl (lv_at hl 2 rfl) ?_
  refine zr_get (r := 104) (v := .ref (ad 114)) X hW fs_X0_20_0 dX0_copyFrom_40 (zc_s104 hS) rfl rfl rfl ?_
  refine lv_iload_n X.1 X.2.1 dX0_copyFrom_43 rfl (lv_at hl 1 rfl) ?_
  refine zr_aald (r := 114) (v := .ref (ad 127)) X hW dX0_copyFrom_44 (zc_s114 hS) rfl rfl rfl (zi_vp (by decide)) rfl ?_
  refine lv_iload_n X.1 X.2.1 dX0_copyFrom_45 rfl (lv_at hl 0 rfl) ?_
  refine lv_aload_n X.1 X.2.1 dX0_copyFrom_46 rfl (lv_at hl 3 rfl) ?_
  refine zr_get (r := 103) (v := .ref (ad 111)) X hW fs_X0_20_0 dX0_copyFrom_47 (zc_s103 hS) rfl rfl rfl ?_
  refine lv_iload_n X.1 X.2.1 dX0_copyFrom_50 rfl (lv_at hl 1 rfl) ?_
  refine zr_aald (r := 111) (v := .ref (ad 121)) X hW dX0_copyFrom_51 (zc_s111 hS) rfl rfl rfl (zi_vp (by decide)) rfl ?_
  refine lv_iload_n X.1 X.2.1 dX0_copyFrom_52 rfl (lv_at hl 0 rfl) ?_
  refine zr_iald (r := 121) (v := u 7 1) X hW dX0_copyFrom_53 (zc_s121 hS) rfl rfl (zi_vp (by decide)) ((show g_5 121 (1 : Int32).toNatClampNeg = g_5 121 1 from rfl).trans ((show g_5 121 1 = g_3 121 1 from (by rw [hg_5]; rfl)).trans ((show g_3 121 1 = g_1 121 1 from (by rw [hg_3]; rfl)).trans ((show g_1 121 1 = g 121 1 from (by rw [hg_1]; rfl)).trans (hN0 _ _ _ _ rfl))))) ?_
  refine zr_iast (r := 127) X hW dX0_copyFrom_54 (zc_s127 hS) rfl rfl (zi_vp (by decide)) (fun H locs hW => ?_)
  obtain ⟨g_7, hg_7⟩ : ∃ z : zm_T, z = zm_w g_5 127 1 (u 7 1) := ⟨_, rfl⟩
  have hW : zw_St Y N0 ad sh g_7 s H locs := by rw [hg_7]; exact hW
  obtain ⟨u_8, hu_8⟩ : ∃ z : zm_T, z = zm_w u_6 7 19 (u 7 1) := ⟨_, rfl⟩
  have hN : zc_N g_7 u_8 := by rw [hg_7, hu_8]; exact zc_Nw hN rfl _
  refine lv_iinc (v := 2) (lv' := [(3, .int 2), (2, .int 0), (0, .ref (ad 104)), (1, .ref (ad 103))]) X.1 X.2.1 dX0_copyFrom_55 hl (k := 0) rfl (by decide) (by decide) rfl (fun ls hl => ?_)
  refine lv_goto (tgt := 34) X.1 X.2.1 dX0_copyFrom_58 (by decide) ?_
  refine lv_iload_n X.1 X.2.1 dX0_copyFrom_34 rfl (lv_at hl 0 rfl) ?_
  refine lv_iconst (v := 3) X.1 X.2.1 dX0_copyFrom_35 (by decide) ?_
  refine zr_icmp_ge (a := 2) (b := 3) (tgt := 61) X dX0_copyFrom_36 (by decide) (by decide) (by decide) (fun c9 => absurd c9 (by decide)) (fun _ => ?_)
  refine lv_aload_n X.1 X.2.1 dX0_copyFrom_39 rfl (lv_at hl 2 rfl) ?_
  refine zr_get (r := 104) (v := .ref (ad 114)) X hW fs_X0_20_0 dX0_copyFrom_40 (zc_s104 hS) rfl rfl rfl ?_
  refine lv_iload_n X.1 X.2.1 dX0_copyFrom_43 rfl (lv_at hl 1 rfl) ?_
  refine zr_aald (r := 114) (v := .ref (ad 127)) X hW dX0_copyFrom_44 (zc_s114 hS) rfl rfl rfl (zi_vp (by decide)) rfl ?_
  refine lv_iload_n X.1 X.2.1 dX0_copyFrom_45 rfl (lv_at hl 0 rfl) ?_
  refine lv_aload_n X.1 X.2.1 dX0_copyFrom_46 rfl (lv_at hl 3 rfl) ?_
  refine zr_get (r := 103) (v := .ref (ad 111)) X hW fs_X0_20_0 dX0_copyFrom_47 (zc_s103 hS) rfl rfl rfl ?_
  refine lv_iload_n X.1 X.2.1 dX0_copyFrom_50 rfl (lv_at hl 1 rfl) ?_
  refine zr_aald (r := 111) (v := .ref (ad 121)) X hW dX0_copyFrom_51 (zc_s111 hS) rfl rfl rfl (zi_vp (by decide)) rfl ?_
  refine lv_iload_n X.1 X.2.1 dX0_copyFrom_52 rfl (lv_at hl 0 rfl) ?_
  refine zr_iald (r := 121) (v := u 7 2) X hW dX0_copyFrom_53 (zc_s121 hS) rfl rfl (zi_vp (by decide)) ((show g_7 121 (2 : Int32).toNatClampNeg = g_7 121 2 from rfl).trans ((show g_7 121 2 = g_5 121 2 from (by rw [hg_7]; rfl)).trans ((show g_5 121 2 = g_3 121 2 from (by rw [hg_5]; rfl)).trans ((show g_3 121 2 = g_1 121 2 from (by rw [hg_3]; rfl)).trans ((show g_1 121 2 = g 121 2 from (by rw [hg_1]; rfl)).trans (hN0 _ _ _ _ rfl)))))) ?_
  refine zr_iast (r := 127) X hW dX0_copyFrom_54 (zc_s127 hS) rfl rfl (zi_vp (by decide)) (fun H locs hW => ?_)
  obtain ⟨g_9, hg_9⟩ : ∃ z : zm_T, z = zm_w g_7 127 2 (u 7 2) := ⟨_, rfl⟩
  have hW : zw_St Y N0 ad sh g_9 s H locs := by rw [hg_9]; exact hW
  obtain ⟨u_10, hu_10⟩ : ∃ z : zm_T, z = zm_w u_8 7 20 (u 7 2) := ⟨_, rfl⟩
  have hN : zc_N g_9 u_10 := by rw [hg_9, hu_10]; exact zc_Nw hN rfl _
  refine lv_iinc (v := 3) (lv' := [(3, .int 3), (2, .int 0), (0, .ref (ad 104)), (1, .ref (ad 103))]) X.1 X.2.1 dX0_copyFrom_55 hl (k := 0) rfl (by decide) (by decide) rfl (fun ls hl => ?_)
  refine lv_goto (tgt := 34) X.1 X.2.1 dX0_copyFrom_58 (by decide) ?_
  refine lv_iload_n X.1 X.2.1 dX0_copyFrom_34 rfl (lv_at hl 0 rfl) ?_
  refine lv_iconst (v := 3) X.1 X.2.1 dX0_copyFrom_35 (by decide) ?_
  refine zr_icmp_ge (a := 3) (b := 3) (tgt := 61) X dX0_copyFrom_36 (by decide) (by decide) (by decide) (fun _ => ?_) (fun c9 => absurd c9 (by decide))
  refine lv_iinc (v := 1) (lv' := [(2, .int 1), (3, .int 3), (0, .ref (ad 104)), (1, .ref (ad 103))]) X.1 X.2.1 dX0_copyFrom_61 hl (k := 1) rfl (by decide) (by decide) rfl (fun ls hl => ?_)
  refine lv_goto (tgt := 2) X.1 X.2.1 dX0_copyFrom_64 (by decide) ?_
  refine lv_iload_n X.1 X.2.1 dX0_copyFrom_2 rfl (lv_at hl 0 rfl) ?_
  refine lv_bipush (v := 6) X.1 X.2.1 dX0_copyFrom_3 (by decide) ?_
  refine zr_icmp_ge (a := 1) (b := 6) (tgt := 67) X dX0_copyFrom_5 (by decide) (by decide) (by decide) (fun c9 => absurd c9 (by decide)) (fun _ => ?_)
  refine lv_aload_n X.1 X.2.1 dX0_copyFrom_8 rfl (lv_at hl 2 rfl) ?_
  refine zr_get (r := 104) (v := .ref (ad 112)) X hW fs_X0_9_0 dX0_copyFrom_9 (zc_s104 hS) rfl rfl rfl ?_
  refine lv_iload_n X.1 X.2.1 dX0_copyFrom_12 rfl (lv_at hl 0 rfl) ?_
  refine lv_aload_n X.1 X.2.1 dX0_copyFrom_13 rfl (lv_at hl 3 rfl) ?_
  refine zr_get (r := 103) (v := .ref (ad 109)) X hW fs_X0_9_0 dX0_copyFrom_14 (zc_s103 hS) rfl rfl rfl ?_
  refine lv_iload_n X.1 X.2.1 dX0_copyFrom_17 rfl (lv_at hl 0 rfl) ?_
  refine zr_iald (r := 109) (v := u 5 1) X hW dX0_copyFrom_18 (zc_s109 hS) rfl rfl (zi_vp (by decide)) ((show g_9 109 (1 : Int32).toNatClampNeg = g_9 109 1 from rfl).trans ((show g_9 109 1 = g_7 109 1 from (by rw [hg_9]; rfl)).trans ((show g_7 109 1 = g_5 109 1 from (by rw [hg_7]; rfl)).trans ((show g_5 109 1 = g_3 109 1 from (by rw [hg_5]; rfl)).trans ((show g_3 109 1 = g_1 109 1 from (by rw [hg_3]; rfl)).trans ((show g_1 109 1 = g 109 1 from (by rw [hg_1]; rfl)).trans (hN0 _ _ _ _ rfl))))))) ?_
  refine zr_iast (r := 112) X hW dX0_copyFrom_19 (zc_s112 hS) rfl rfl (zi_vp (by decide)) (fun H locs hW => ?_)
  obtain ⟨g_11, hg_11⟩ : ∃ z : zm_T, z = zm_w g_9 112 1 (u 5 1) := ⟨_, rfl⟩
  have hW : zw_St Y N0 ad sh g_11 s H locs := by rw [hg_11]; exact hW
  obtain ⟨u_12, hu_12⟩ : ∃ z : zm_T, z = zm_w u_10 5 7 (u 5 1) := ⟨_, rfl⟩
  have hN : zc_N g_11 u_12 := by rw [hg_11, hu_12]; exact zc_Nw hN rfl _
  refine lv_aload_n X.1 X.2.1 dX0_copyFrom_20 rfl (lv_at hl 2 rfl) ?_
  refine zr_get (r := 104) (v := .ref (ad 113)) X hW fs_X0_15_0 dX0_copyFrom_21 (zc_s104 hS) rfl rfl rfl ?_
  refine lv_iload_n X.1 X.2.1 dX0_copyFrom_24 rfl (lv_at hl 0 rfl) ?_
  refine lv_aload_n X.1 X.2.1 dX0_copyFrom_25 rfl (lv_at hl 3 rfl) ?_
  refine zr_get (r := 103) (v := .ref (ad 110)) X hW fs_X0_15_0 dX0_copyFrom_26 (zc_s103 hS) rfl rfl rfl ?_
  refine lv_iload_n X.1 X.2.1 dX0_copyFrom_29 rfl (lv_at hl 0 rfl) ?_
  refine zr_iald (r := 110) (v := u 6 1) X hW dX0_copyFrom_30 (zc_s110 hS) rfl rfl (zi_vp (by decide)) ((show g_11 110 (1 : Int32).toNatClampNeg = g_11 110 1 from rfl).trans ((show g_11 110 1 = g_9 110 1 from (by rw [hg_11]; rfl)).trans ((show g_9 110 1 = g_7 110 1 from (by rw [hg_9]; rfl)).trans ((show g_7 110 1 = g_5 110 1 from (by rw [hg_7]; rfl)).trans ((show g_5 110 1 = g_3 110 1 from (by rw [hg_5]; rfl)).trans ((show g_3 110 1 = g_1 110 1 from (by rw [hg_3]; rfl)).trans ((show g_1 110 1 = g 110 1 from (by rw [hg_1]; rfl)).trans (hN0 _ _ _ _ rfl)))))))) ?_
  refine zr_iast (r := 113) X hW dX0_copyFrom_31 (zc_s113 hS) rfl rfl (zi_vp (by decide)) (fun H locs hW => ?_)
  obtain ⟨g_13, hg_13⟩ : ∃ z : zm_T, z = zm_w g_11 113 1 (u 6 1) := ⟨_, rfl⟩
  have hW : zw_St Y N0 ad sh g_13 s H locs := by rw [hg_13]; exact hW
  obtain ⟨u_14, hu_14⟩ : ∃ z : zm_T, z = zm_w u_12 6 7 (u 6 1) := ⟨_, rfl⟩
  have hN : zc_N g_13 u_14 := by rw [hg_13, hu_14]; exact zc_Nw hN rfl _
  refine lv_iconst (v := 0) X.1 X.2.1 dX0_copyFrom_32 (by decide) ?_
  refine lv_istore_n (lv' := [(3, .int 0), (2, .int 1), (0, .ref (ad 104)), (1, .ref (ad 103))]) X.1 X.2.1 dX0_copyFrom_33 rfl hl (by decide) rfl (fun ls hl => ?_)
  refine lv_iload_n X.1 X.2.1 dX0_copyFrom_34 rfl (lv_at hl 0 rfl) ?_
  refine lv_iconst (v := 3) X.1 X.2.1 dX0_copyFrom_35 (by decide) ?_
  refine zr_icmp_ge (a := 0) (b := 3) (tgt := 61) X dX0_copyFrom_36 (by decide) (by decide) (by decide) (fun c9 => absurd c9 (by decide)) (fun _ => ?_)
  refine lv_aload_n X.1 X.2.1 dX0_copyFrom_39 rfl (lv_at hl 2 rfl) ?_
  refine zr_get (r := 104) (v := .ref (ad 114)) X hW fs_X0_20_0 dX0_copyFrom_40 (zc_s104 hS) rfl rfl rfl ?_
  refine lv_iload_n X.1 X.2.1 dX0_copyFrom_43 rfl (lv_at hl 1 rfl) ?_
  refine zr_aald (r := 114) (v := .ref (ad 128)) X hW dX0_copyFrom_44 (zc_s114 hS) rfl rfl rfl (zi_vp (by decide)) rfl ?_
  refine lv_iload_n X.1 X.2.1 dX0_copyFrom_45 rfl (lv_at hl 0 rfl) ?_
  refine lv_aload_n X.1 X.2.1 dX0_copyFrom_46 rfl (lv_at hl 3 rfl) ?_
  refine zr_get (r := 103) (v := .ref (ad 111)) X hW fs_X0_20_0 dX0_copyFrom_47 (zc_s103 hS) rfl rfl rfl ?_
  refine lv_iload_n X.1 X.2.1 dX0_copyFrom_50 rfl (lv_at hl 1 rfl) ?_
  refine zr_aald (r := 111) (v := .ref (ad 122)) X hW dX0_copyFrom_51 (zc_s111 hS) rfl rfl rfl (zi_vp (by decide)) rfl ?_
  refine lv_iload_n X.1 X.2.1 dX0_copyFrom_52 rfl (lv_at hl 0 rfl) ?_
  refine zr_iald (r := 122) (v := u 7 3) X hW dX0_copyFrom_53 (zc_s122 hS) rfl rfl (zi_vp (by decide)) ((show g_13 122 (0 : Int32).toNatClampNeg = g_13 122 0 from rfl).trans ((show g_13 122 0 = g_11 122 0 from (by rw [hg_13]; rfl)).trans ((show g_11 122 0 = g_9 122 0 from (by rw [hg_11]; rfl)).trans ((show g_9 122 0 = g_7 122 0 from (by rw [hg_9]; rfl)).trans ((show g_7 122 0 = g_5 122 0 from (by rw [hg_7]; rfl)).trans ((show g_5 122 0 = g_3 122 0 from (by rw [hg_5]; rfl)).trans ((show g_3 122 0 = g_1 122 0 from (by rw [hg_3]; rfl)).trans ((show g_1 122 0 = g 122 0 from (by rw [hg_1]; rfl)).trans (hN0 _ _ _ _ rfl))))))))) ?_
  refine zr_iast (r := 128) X hW dX0_copyFrom_54 (zc_s128 hS) rfl rfl (zi_vp (by decide)) (fun H locs hW => ?_)
  obtain ⟨g_15, hg_15⟩ : ∃ z : zm_T, z = zm_w g_13 128 0 (u 7 3) := ⟨_, rfl⟩
  have hW : zw_St Y N0 ad sh g_15 s H locs := by rw [hg_15]; exact hW
  obtain ⟨u_16, hu_16⟩ : ∃ z : zm_T, z = zm_w u_14 7 21 (u 7 3) := ⟨_, rfl⟩
  have hN : zc_N g_15 u_16 := by rw [hg_15, hu_16]; exact zc_Nw hN rfl _
  refine lv_iinc (v := 1) (lv' := [(3, .int 1), (2, .int 1), (0, .ref (ad 104)), (1, .ref (ad 103))]) X.1 X.2.1 dX0_copyFrom_55 hl (k := 0) rfl (by decide) (by decide) rfl (fun ls hl => ?_)
  refine lv_goto (tgt := 34) X.1 X.2.1 dX0_copyFrom_58 (by decide) ?_
  refine lv_iload_n X.1 X.2.1 dX0_copyFrom_34 rfl (lv_at hl 0 rfl) ?_
  refine lv_iconst (v := 3) X.1 X.2.1 dX0_copyFrom_35 (by decide) ?_
  refine zr_icmp_ge (a := 1) (b := 3) (tgt := 61) X dX0_copyFrom_36 (by decide) (by decide) (by decide) (fun c9 => absurd c9 (by decide)) (fun _ => ?_)
  refine lv_aload_n X.1 X.2.1 dX0_copyFrom_39 rfl (lv_at hl 2 rfl) ?_
  refine zr_get (r := 104) (v := .ref (ad 114)) X hW fs_X0_20_0 dX0_copyFrom_40 (zc_s104 hS) rfl rfl rfl ?_
  refine lv_iload_n X.1 X.2.1 dX0_copyFrom_43 rfl (lv_at hl 1 rfl) ?_
  refine zr_aald (r := 114) (v := .ref (ad 128)) X hW dX0_copyFrom_44 (zc_s114 hS) rfl rfl rfl (zi_vp (by decide)) rfl ?_
  refine lv_iload_n X.1 X.2.1 dX0_copyFrom_45 rfl (lv_at hl 0 rfl) ?_
  refine lv_aload_n X.1 X.2.1 dX0_copyFrom_46 rfl (lv_at hl 3 rfl) ?_
  refine zr_get (r := 103) (v := .ref (ad 111)) X hW fs_X0_20_0 dX0_copyFrom_47 (zc_s103 hS) rfl rfl rfl ?_
  refine lv_iload_n X.1 X.2.1 dX0_copyFrom_50 rfl (lv_at hl 1 rfl) ?_
  refine zr_aald (r := 111) (v := .ref (ad 122)) X hW dX0_copyFrom_51 (zc_s111 hS) rfl rfl rfl (zi_vp (by decide)) rfl ?_
  refine lv_iload_n X.1 X.2.1 dX0_copyFrom_52 rfl (lv_at hl 0 rfl) ?_
  refine zr_iald (r := 122) (v := u 7 4) X hW dX0_copyFrom_53 (zc_s122 hS) rfl rfl (zi_vp (by decide)) ((show g_15 122 (1 : Int32).toNatClampNeg = g_15 122 1 from rfl).trans ((show g_15 122 1 = g_13 122 1 from (by rw [hg_15]; rfl)).trans ((show g_13 122 1 = g_11 122 1 from (by rw [hg_13]; rfl)).trans ((show g_11 122 1 = g_9 122 1 from (by rw [hg_11]; rfl)).trans ((show g_9 122 1 = g_7 122 1 from (by rw [hg_9]; rfl)).trans ((show g_7 122 1 = g_5 122 1 from (by rw [hg_7]; rfl)).trans ((show g_5 122 1 = g_3 122 1 from (by rw [hg_5]; rfl)).trans ((show g_3 122 1 = g_1 122 1 from (by rw [hg_3]; rfl)).trans ((show g_1 122 1 = g 122 1 from (by rw [hg_1]; rfl)).trans (hN0 _ _ _ _ rfl)))))))))) ?_
  refine zr_iast (r := 128) X hW dX0_copyFrom_54 (zc_s128 hS) rfl rfl (zi_vp (by decide)) (fun H locs hW => ?_)
  obtain ⟨g_17, hg_17⟩ : ∃ z : zm_T, z = zm_w g_15 128 1 (u 7 4) := ⟨_, rfl⟩
  have hW : zw_St Y N0 ad sh g_17 s H locs := by rw [hg_17]; exact hW
  obtain ⟨u_18, hu_18⟩ : ∃ z : zm_T, z = zm_w u_16 7 22 (u 7 4) := ⟨_, rfl⟩
  have hN : zc_N g_17 u_18 := by rw [hg_17, hu_18]; exact zc_Nw hN rfl _
  refine lv_iinc (v := 2) (lv' := [(3, .int 2), (2, .int 1), (0, .ref (ad 104)), (1, .ref (ad 103))]) X.1 X.2.1 dX0_copyFrom_55 hl (k := 0) rfl (by decide) (by decide) rfl (fun ls hl => ?_)
  refine lv_goto (tgt := 34) X.1 X.2.1 dX0_copyFrom_58 (by decide) ?_
  refine lv_iload_n X.1 X.2.1 dX0_copyFrom_34 rfl (lv_at hl 0 rfl) ?_
  refine lv_iconst (v := 3) X.1 X.2.1 dX0_copyFrom_35 (by decide) ?_
  refine zr_icmp_ge (a := 2) (b := 3) (tgt := 61) X dX0_copyFrom_36 (by decide) (by decide) (by decide) (fun c9 => absurd c9 (by decide)) (fun _ => ?_)
  refine lv_aload_n X.1 X.2.1 dX0_copyFrom_39 rfl (lv_at hl 2 rfl) ?_
  refine zr_get (r := 104) (v := .ref (ad 114)) X hW fs_X0_20_0 dX0_copyFrom_40 (zc_s104 hS) rfl rfl rfl ?_
  refine lv_iload_n X.1 X.2.1 dX0_copyFrom_43 rfl (lv_at hl 1 rfl) ?_
  refine zr_aald (r := 114) (v := .ref (ad 128)) X hW dX0_copyFrom_44 (zc_s114 hS) rfl rfl rfl (zi_vp (by decide)) rfl ?_
  refine lv_iload_n X.1 X.2.1 dX0_copyFrom_45 rfl (lv_at hl 0 rfl) ?_
  refine lv_aload_n X.1 X.2.1 dX0_copyFrom_46 rfl (lv_at hl 3 rfl) ?_
  refine zr_get (r := 103) (v := .ref (ad 111)) X hW fs_X0_20_0 dX0_copyFrom_47 (zc_s103 hS) rfl rfl rfl ?_
  refine lv_iload_n X.1 X.2.1 dX0_copyFrom_50 rfl (lv_at hl 1 rfl) ?_
  refine zr_aald (r := 111) (v := .ref (ad 122)) X hW dX0_copyFrom_51 (zc_s111 hS) rfl rfl rfl (zi_vp (by decide)) rfl ?_
  refine lv_iload_n X.1 X.2.1 dX0_copyFrom_52 rfl (lv_at hl 0 rfl) ?_
  refine zr_iald (r := 122) (v := u 7 5) X hW dX0_copyFrom_53 (zc_s122 hS) rfl rfl (zi_vp (by decide)) ((show g_17 122 (2 : Int32).toNatClampNeg = g_17 122 2 from rfl).trans ((show g_17 122 2 = g_15 122 2 from (by rw [hg_17]; rfl)).trans ((show g_15 122 2 = g_13 122 2 from (by rw [hg_15]; rfl)).trans ((show g_13 122 2 = g_11 122 2 from (by rw [hg_13]; rfl)).trans ((show g_11 122 2 = g_9 122 2 from (by rw [hg_11]; rfl)).trans ((show g_9 122 2 = g_7 122 2 from (by rw [hg_9]; rfl)).trans ((show g_7 122 2 = g_5 122 2 from (by rw [hg_7]; rfl)).trans ((show g_5 122 2 = g_3 122 2 from (by rw [hg_5]; rfl)).trans ((show g_3 122 2 = g_1 122 2 from (by rw [hg_3]; rfl)).trans ((show g_1 122 2 = g 122 2 from (by rw [hg_1]; rfl)).trans (hN0 _ _ _ _ rfl))))))))))) ?_
  refine zr_iast (r := 128) X hW dX0_copyFrom_54 (zc_s128 hS) rfl rfl (zi_vp (by decide)) (fun H locs hW => ?_)
  obtain ⟨g_19, hg_19⟩ : ∃ z : zm_T, z = zm_w g_17 128 2 (u 7 5) := ⟨_, rfl⟩
  have hW : zw_St Y N0 ad sh g_19 s H locs := by rw [hg_19]; exact hW
  obtain ⟨u_20, hu_20⟩ : ∃ z : zm_T, z = zm_w u_18 7 23 (u 7 5) := ⟨_, rfl⟩
  have hN : zc_N g_19 u_20 := by rw [hg_19, hu_20]; exact zc_Nw hN rfl _
  refine lv_iinc (v := 3) (lv' := [(3, .int 3), (2, .int 1), (0, .ref (ad 104)), (1, .ref (ad 103))]) X.1 X.2.1 dX0_copyFrom_55 hl (k := 0) rfl (by decide) (by decide) rfl (fun ls hl => ?_)
  refine lv_goto (tgt := 34) X.1 X.2.1 dX0_copyFrom_58 (by decide) ?_
  refine lv_iload_n X.1 X.2.1 dX0_copyFrom_34 rfl (lv_at hl 0 rfl) ?_
  refine lv_iconst (v := 3) X.1 X.2.1 dX0_copyFrom_35 (by decide) ?_
  refine zr_icmp_ge (a := 3) (b := 3) (tgt := 61) X dX0_copyFrom_36 (by decide) (by decide) (by decide) (fun _ => ?_) (fun c9 => absurd c9 (by decide))
  refine lv_iinc (v := 2) (lv' := [(2, .int 2), (3, .int 3), (0, .ref (ad 104)), (1, .ref (ad 103))]) X.1 X.2.1 dX0_copyFrom_61 hl (k := 1) rfl (by decide) (by decide) rfl (fun ls hl => ?_)
  refine lv_goto (tgt := 2) X.1 X.2.1 dX0_copyFrom_64 (by decide) ?_
  refine lv_iload_n X.1 X.2.1 dX0_copyFrom_2 rfl (lv_at hl 0 rfl) ?_
  refine lv_bipush (v := 6) X.1 X.2.1 dX0_copyFrom_3 (by decide) ?_
  refine zr_icmp_ge (a := 2) (b := 6) (tgt := 67) X dX0_copyFrom_5 (by decide) (by decide) (by decide) (fun c9 => absurd c9 (by decide)) (fun _ => ?_)
  refine lv_aload_n X.1 X.2.1 dX0_copyFrom_8 rfl (lv_at hl 2 rfl) ?_
  refine zr_get (r := 104) (v := .ref (ad 112)) X hW fs_X0_9_0 dX0_copyFrom_9 (zc_s104 hS) rfl rfl rfl ?_
  refine lv_iload_n X.1 X.2.1 dX0_copyFrom_12 rfl (lv_at hl 0 rfl) ?_
  refine lv_aload_n X.1 X.2.1 dX0_copyFrom_13 rfl (lv_at hl 3 rfl) ?_
  refine zr_get (r := 103) (v := .ref (ad 109)) X hW fs_X0_9_0 dX0_copyFrom_14 (zc_s103 hS) rfl rfl rfl ?_
  refine lv_iload_n X.1 X.2.1 dX0_copyFrom_17 rfl (lv_at hl 0 rfl) ?_
  refine zr_iald (r := 109) (v := u 5 2) X hW dX0_copyFrom_18 (zc_s109 hS) rfl rfl (zi_vp (by decide)) ((show g_19 109 (2 : Int32).toNatClampNeg = g_19 109 2 from rfl).trans ((show g_19 109 2 = g_17 109 2 from (by rw [hg_19]; rfl)).trans ((show g_17 109 2 = g_15 109 2 from (by rw [hg_17]; rfl)).trans ((show g_15 109 2 = g_13 109 2 from (by rw [hg_15]; rfl)).trans ((show g_13 109 2 = g_11 109 2 from (by rw [hg_13]; rfl)).trans ((show g_11 109 2 = g_9 109 2 from (by rw [hg_11]; rfl)).trans ((show g_9 109 2 = g_7 109 2 from (by rw [hg_9]; rfl)).trans ((show g_7 109 2 = g_5 109 2 from (by rw [hg_7]; rfl)).trans ((show g_5 109 2 = g_3 109 2 from (by rw [hg_5]; rfl)).trans ((show g_3 109 2 = g_1 109 2 from (by rw [hg_3]; rfl)).trans ((show g_1 109 2 = g 109 2 from (by rw [hg_1]; rfl)).trans (hN0 _ _ _ _ rfl)))))))))))) ?_
  refine zr_iast (r := 112) X hW dX0_copyFrom_19 (zc_s112 hS) rfl rfl (zi_vp (by decide)) (fun H locs hW => ?_)
  obtain ⟨g_21, hg_21⟩ : ∃ z : zm_T, z = zm_w g_19 112 2 (u 5 2) := ⟨_, rfl⟩
  have hW : zw_St Y N0 ad sh g_21 s H locs := by rw [hg_21]; exact hW
  obtain ⟨u_22, hu_22⟩ : ∃ z : zm_T, z = zm_w u_20 5 8 (u 5 2) := ⟨_, rfl⟩
  have hN : zc_N g_21 u_22 := by rw [hg_21, hu_22]; exact zc_Nw hN rfl _
  refine lv_aload_n X.1 X.2.1 dX0_copyFrom_20 rfl (lv_at hl 2 rfl) ?_
  refine zr_get (r := 104) (v := .ref (ad 113)) X hW fs_X0_15_0 dX0_copyFrom_21 (zc_s104 hS) rfl rfl rfl ?_
  refine lv_iload_n X.1 X.2.1 dX0_copyFrom_24 rfl (lv_at hl 0 rfl) ?_
  refine lv_aload_n X.1 X.2.1 dX0_copyFrom_25 rfl (lv_at hl 3 rfl) ?_
  refine zr_get (r := 103) (v := .ref (ad 110)) X hW fs_X0_15_0 dX0_copyFrom_26 (zc_s103 hS) rfl rfl rfl ?_
  refine lv_iload_n X.1 X.2.1 dX0_copyFrom_29 rfl (lv_at hl 0 rfl) ?_
  refine zr_iald (r := 110) (v := u 6 2) X hW dX0_copyFrom_30 (zc_s110 hS) rfl rfl (zi_vp (by decide)) ((show g_21 110 (2 : Int32).toNatClampNeg = g_21 110 2 from rfl).trans ((show g_21 110 2 = g_19 110 2 from (by rw [hg_21]; rfl)).trans ((show g_19 110 2 = g_17 110 2 from (by rw [hg_19]; rfl)).trans ((show g_17 110 2 = g_15 110 2 from (by rw [hg_17]; rfl)).trans ((show g_15 110 2 = g_13 110 2 from (by rw [hg_15]; rfl)).trans ((show g_13 110 2 = g_11 110 2 from (by rw [hg_13]; rfl)).trans ((show g_11 110 2 = g_9 110 2 from (by rw [hg_11]; rfl)).trans ((show g_9 110 2 = g_7 110 2 from (by rw [hg_9]; rfl)).trans ((show g_7 110 2 = g_5 110 2 from (by rw [hg_7]; rfl)).trans ((show g_5 110 2 = g_3 110 2 from (by rw [hg_5]; rfl)).trans ((show g_3 110 2 = g_1 110 2 from (by rw [hg_3]; rfl)).trans ((show g_1 110 2 = g 110 2 from (by rw [hg_1]; rfl)).trans (hN0 _ _ _ _ rfl))))))))))))) ?_
  refine zr_iast (r := 113) X hW dX0_copyFrom_31 (zc_s113 hS) rfl rfl (zi_vp (by decide)) (fun H locs hW => ?_)
  obtain ⟨g_23, hg_23⟩ : ∃ z : zm_T, z = zm_w g_21 113 2 (u 6 2) := ⟨_, rfl⟩
  have hW : zw_St Y N0 ad sh g_23 s H locs := by rw [hg_23]; exact hW
  obtain ⟨u_24, hu_24⟩ : ∃ z : zm_T, z = zm_w u_22 6 8 (u 6 2) := ⟨_, rfl⟩
  have hN : zc_N g_23 u_24 := by rw [hg_23, hu_24]; exact zc_Nw hN rfl _
  refine lv_iconst (v := 0) X.1 X.2.1 dX0_copyFrom_32 (by decide) ?_
  refine lv_istore_n (lv' := [(3, .int 0), (2, .int 2), (0, .ref (ad 104)), (1, .ref (ad 103))]) X.1 X.2.1 dX0_copyFrom_33 rfl hl (by decide) rfl (fun ls hl => ?_)
  refine lv_iload_n X.1 X.2.1 dX0_copyFrom_34 rfl (lv_at hl 0 rfl) ?_
  refine lv_iconst (v := 3) X.1 X.2.1 dX0_copyFrom_35 (by decide) ?_
  refine zr_icmp_ge (a := 0) (b := 3) (tgt := 61) X dX0_copyFrom_36 (by decide) (by decide) (by decide) (fun c9 => absurd c9 (by decide)) (fun _ => ?_)
  refine lv_aload_n X.1 X.2.1 dX0_copyFrom_39 rfl (lv_at hl 2 rfl) ?_
  refine zr_get (r := 104) (v := .ref (ad 114)) X hW fs_X0_20_0 dX0_copyFrom_40 (zc_s104 hS) rfl rfl rfl ?_
  refine lv_iload_n X.1 X.2.1 dX0_copyFrom_43 rfl (lv_at hl 1 rfl) ?_
  refine zr_aald (r := 114) (v := .ref (ad 129)) X hW dX0_copyFrom_44 (zc_s114 hS) rfl rfl rfl (zi_vp (by decide)) rfl ?_
  refine lv_iload_n X.1 X.2.1 dX0_copyFrom_45 rfl (lv_at hl 0 rfl) ?_
  refine lv_aload_n X.1 X.2.1 dX0_copyFrom_46 rfl (lv_at hl 3 rfl) ?_
  refine zr_get (r := 103) (v := .ref (ad 111)) X hW fs_X0_20_0 dX0_copyFrom_47 (zc_s103 hS) rfl rfl rfl ?_
  refine lv_iload_n X.1 X.2.1 dX0_copyFrom_50 rfl (lv_at hl 1 rfl) ?_
  refine zr_aald (r := 111) (v := .ref (ad 123)) X hW dX0_copyFrom_51 (zc_s111 hS) rfl rfl rfl (zi_vp (by decide)) rfl ?_
  refine lv_iload_n X.1 X.2.1 dX0_copyFrom_52 rfl (lv_at hl 0 rfl) ?_
  refine zr_iald (r := 123) (v := u 7 6) X hW dX0_copyFrom_53 (zc_s123 hS) rfl rfl (zi_vp (by decide)) ((show g_23 123 (0 : Int32).toNatClampNeg = g_23 123 0 from rfl).trans ((show g_23 123 0 = g_21 123 0 from (by rw [hg_23]; rfl)).trans ((show g_21 123 0 = g_19 123 0 from (by rw [hg_21]; rfl)).trans ((show g_19 123 0 = g_17 123 0 from (by rw [hg_19]; rfl)).trans ((show g_17 123 0 = g_15 123 0 from (by rw [hg_17]; rfl)).trans ((show g_15 123 0 = g_13 123 0 from (by rw [hg_15]; rfl)).trans ((show g_13 123 0 = g_11 123 0 from (by rw [hg_13]; rfl)).trans ((show g_11 123 0 = g_9 123 0 from (by rw [hg_11]; rfl)).trans ((show g_9 123 0 = g_7 123 0 from (by rw [hg_9]; rfl)).trans ((show g_7 123 0 = g_5 123 0 from (by rw [hg_7]; rfl)).trans ((show g_5 123 0 = g_3 123 0 from (by rw [hg_5]; rfl)).trans ((show g_3 123 0 = g_1 123 0 from (by rw [hg_3]; rfl)).trans ((show g_1 123 0 = g 123 0 from (by rw [hg_1]; rfl)).trans (hN0 _ _ _ _ rfl)))))))))))))) ?_
  refine zr_iast (r := 129) X hW dX0_copyFrom_54 (zc_s129 hS) rfl rfl (zi_vp (by decide)) (fun H locs hW => ?_)
  obtain ⟨g_25, hg_25⟩ : ∃ z : zm_T, z = zm_w g_23 129 0 (u 7 6) := ⟨_, rfl⟩
  have hW : zw_St Y N0 ad sh g_25 s H locs := by rw [hg_25]; exact hW
  obtain ⟨u_26, hu_26⟩ : ∃ z : zm_T, z = zm_w u_24 7 24 (u 7 6) := ⟨_, rfl⟩
  have hN : zc_N g_25 u_26 := by rw [hg_25, hu_26]; exact zc_Nw hN rfl _
  refine lv_iinc (v := 1) (lv' := [(3, .int 1), (2, .int 2), (0, .ref (ad 104)), (1, .ref (ad 103))]) X.1 X.2.1 dX0_copyFrom_55 hl (k := 0) rfl (by decide) (by decide) rfl (fun ls hl => ?_)
  refine lv_goto (tgt := 34) X.1 X.2.1 dX0_copyFrom_58 (by decide) ?_
  refine lv_iload_n X.1 X.2.1 dX0_copyFrom_34 rfl (lv_at hl 0 rfl) ?_
  refine lv_iconst (v := 3) X.1 X.2.1 dX0_copyFrom_35 (by decide) ?_
  refine zr_icmp_ge (a := 1) (b := 3) (tgt := 61) X dX0_copyFrom_36 (by decide) (by decide) (by decide) (fun c9 => absurd c9 (by decide)) (fun _ => ?_)
  refine lv_aload_n X.1 X.2.1 dX0_copyFrom_39 rfl (lv_at hl 2 rfl) ?_
  refine zr_get (r := 104) (v := .ref (ad 114)) X hW fs_X0_20_0 dX0_copyFrom_40 (zc_s104 hS) rfl rfl rfl ?_
  refine lv_iload_n X.1 X.2.1 dX0_copyFrom_43 rfl (lv_at hl 1 rfl) ?_
  refine zr_aald (r := 114) (v := .ref (ad 129)) X hW dX0_copyFrom_44 (zc_s114 hS) rfl rfl rfl (zi_vp (by decide)) rfl ?_
  refine lv_iload_n X.1 X.2.1 dX0_copyFrom_45 rfl (lv_at hl 0 rfl) ?_
  refine lv_aload_n X.1 X.2.1 dX0_copyFrom_46 rfl (lv_at hl 3 rfl) ?_
  refine zr_get (r := 103) (v := .ref (ad 111)) X hW fs_X0_20_0 dX0_copyFrom_47 (zc_s103 hS) rfl rfl rfl ?_
  refine lv_iload_n X.1 X.2.1 dX0_copyFrom_50 rfl (lv_at hl 1 rfl) ?_
  refine zr_aald (r := 111) (v := .ref (ad 123)) X hW dX0_copyFrom_51 (zc_s111 hS) rfl rfl rfl (zi_vp (by decide)) rfl ?_
  refine lv_iload_n X.1 X.2.1 dX0_copyFrom_52 rfl (lv_at hl 0 rfl) ?_
  refine zr_iald (r := 123) (v := u 7 7) X hW dX0_copyFrom_53 (zc_s123 hS) rfl rfl (zi_vp (by decide)) ((show g_25 123 (1 : Int32).toNatClampNeg = g_25 123 1 from rfl).trans ((show g_25 123 1 = g_23 123 1 from (by rw [hg_25]; rfl)).trans ((show g_23 123 1 = g_21 123 1 from (by rw [hg_23]; rfl)).trans ((show g_21 123 1 = g_19 123 1 from (by rw [hg_21]; rfl)).trans ((show g_19 123 1 = g_17 123 1 from (by rw [hg_19]; rfl)).trans ((show g_17 123 1 = g_15 123 1 from (by rw [hg_17]; rfl)).trans ((show g_15 123 1 = g_13 123 1 from (by rw [hg_15]; rfl)).trans ((show g_13 123 1 = g_11 123 1 from (by rw [hg_13]; rfl)).trans ((show g_11 123 1 = g_9 123 1 from (by rw [hg_11]; rfl)).trans ((show g_9 123 1 = g_7 123 1 from (by rw [hg_9]; rfl)).trans ((show g_7 123 1 = g_5 123 1 from (by rw [hg_7]; rfl)).trans ((show g_5 123 1 = g_3 123 1 from (by rw [hg_5]; rfl)).trans ((show g_3 123 1 = g_1 123 1 from (by rw [hg_3]; rfl)).trans ((show g_1 123 1 = g 123 1 from (by rw [hg_1]; rfl)).trans (hN0 _ _ _ _ rfl))))))))))))))) ?_
  refine zr_iast (r := 129) X hW dX0_copyFrom_54 (zc_s129 hS) rfl rfl (zi_vp (by decide)) (fun H locs hW => ?_)
  obtain ⟨g_27, hg_27⟩ : ∃ z : zm_T, z = zm_w g_25 129 1 (u 7 7) := ⟨_, rfl⟩
  have hW : zw_St Y N0 ad sh g_27 s H locs := by rw [hg_27]; exact hW
  obtain ⟨u_28, hu_28⟩ : ∃ z : zm_T, z = zm_w u_26 7 25 (u 7 7) := ⟨_, rfl⟩
  have hN : zc_N g_27 u_28 := by rw [hg_27, hu_28]; exact zc_Nw hN rfl _
  refine lv_iinc (v := 2) (lv' := [(3, .int 2), (2, .int 2), (0, .ref (ad 104)), (1, .ref (ad 103))]) X.1 X.2.1 dX0_copyFrom_55 hl (k := 0) rfl (by decide) (by decide) rfl (fun ls hl => ?_)
  refine lv_goto (tgt := 34) X.1 X.2.1 dX0_copyFrom_58 (by decide) ?_
  refine lv_iload_n X.1 X.2.1 dX0_copyFrom_34 rfl (lv_at hl 0 rfl) ?_
  refine lv_iconst (v := 3) X.1 X.2.1 dX0_copyFrom_35 (by decide) ?_
  refine zr_icmp_ge (a := 2) (b := 3) (tgt := 61) X dX0_copyFrom_36 (by decide) (by decide) (by decide) (fun c9 => absurd c9 (by decide)) (fun _ => ?_)
  refine lv_aload_n X.1 X.2.1 dX0_copyFrom_39 rfl (lv_at hl 2 rfl) ?_
  refine zr_get (r := 104) (v := .ref (ad 114)) X hW fs_X0_20_0 dX0_copyFrom_40 (zc_s104 hS) rfl rfl rfl ?_
  refine lv_iload_n X.1 X.2.1 dX0_copyFrom_43 rfl (lv_at hl 1 rfl) ?_
  refine zr_aald (r := 114) (v := .ref (ad 129)) X hW dX0_copyFrom_44 (zc_s114 hS) rfl rfl rfl (zi_vp (by decide)) rfl ?_
  refine lv_iload_n X.1 X.2.1 dX0_copyFrom_45 rfl (lv_at hl 0 rfl) ?_
  refine lv_aload_n X.1 X.2.1 dX0_copyFrom_46 rfl (lv_at hl 3 rfl) ?_
  refine zr_get (r := 103) (v := .ref (ad 111)) X hW fs_X0_20_0 dX0_copyFrom_47 (zc_s103 hS) rfl rfl rfl ?_
  refine lv_iload_n X.1 X.2.1 dX0_copyFrom_50 rfl (lv_at hl 1 rfl) ?_
  refine zr_aald (r := 111) (v := .ref (ad 123)) X hW dX0_copyFrom_51 (zc_s111 hS) rfl rfl rfl (zi_vp (by decide)) rfl ?_
  refine lv_iload_n X.1 X.2.1 dX0_copyFrom_52 rfl (lv_at hl 0 rfl) ?_
  refine zr_iald (r := 123) (v := u 7 8) X hW dX0_copyFrom_53 (zc_s123 hS) rfl rfl (zi_vp (by decide)) ((show g_27 123 (2 : Int32).toNatClampNeg = g_27 123 2 from rfl).trans ((show g_27 123 2 = g_25 123 2 from (by rw [hg_27]; rfl)).trans ((show g_25 123 2 = g_23 123 2 from (by rw [hg_25]; rfl)).trans ((show g_23 123 2 = g_21 123 2 from (by rw [hg_23]; rfl)).trans ((show g_21 123 2 = g_19 123 2 from (by rw [hg_21]; rfl)).trans ((show g_19 123 2 = g_17 123 2 from (by rw [hg_19]; rfl)).trans ((show g_17 123 2 = g_15 123 2 from (by rw [hg_17]; rfl)).trans ((show g_15 123 2 = g_13 123 2 from (by rw [hg_15]; rfl)).trans ((show g_13 123 2 = g_11 123 2 from (by rw [hg_13]; rfl)).trans ((show g_11 123 2 = g_9 123 2 from (by rw [hg_11]; rfl)).trans ((show g_9 123 2 = g_7 123 2 from (by rw [hg_9]; rfl)).trans ((show g_7 123 2 = g_5 123 2 from (by rw [hg_7]; rfl)).trans ((show g_5 123 2 = g_3 123 2 from (by rw [hg_5]; rfl)).trans ((show g_3 123 2 = g_1 123 2 from (by rw [hg_3]; rfl)).trans ((show g_1 123 2 = g 123 2 from (by rw [hg_1]; rfl)).trans (hN0 _ _ _ _ rfl)))))))))))))))) ?_
  refine zr_iast (r := 129) X hW dX0_copyFrom_54 (zc_s129 hS) rfl rfl (zi_vp (by decide)) (fun H locs hW => ?_)
  obtain ⟨g_29, hg_29⟩ : ∃ z : zm_T, z = zm_w g_27 129 2 (u 7 8) := ⟨_, rfl⟩
  have hW : zw_St Y N0 ad sh g_29 s H locs := by rw [hg_29]; exact hW
  obtain ⟨u_30, hu_30⟩ : ∃ z : zm_T, z = zm_w u_28 7 26 (u 7 8) := ⟨_, rfl⟩
  have hN : zc_N g_29 u_30 := by rw [hg_29, hu_30]; exact zc_Nw hN rfl _
  refine lv_iinc (v := 3) (lv' := [(3, .int 3), (2, .int 2), (0, .ref (ad 104)), (1, .ref (ad 103))]) X.1 X.2.1 dX0_copyFrom_55 hl (k := 0) rfl (by decide) (by decide) rfl (fun ls hl => ?_)
  refine lv_goto (tgt := 34) X.1 X.2.1 dX0_copyFrom_58 (by decide) ?_
  refine lv_iload_n X.1 X.2.1 dX0_copyFrom_34 rfl (lv_at hl 0 rfl) ?_
  refine lv_iconst (v := 3) X.1 X.2.1 dX0_copyFrom_35 (by decide) ?_
  refine zr_icmp_ge (a := 3) (b := 3) (tgt := 61) X dX0_copyFrom_36 (by decide) (by decide) (by decide) (fun _ => ?_) (fun c9 => absurd c9 (by decide))
  refine lv_iinc (v := 3) (lv' := [(2, .int 3), (3, .int 3), (0, .ref (ad 104)), (1, .ref (ad 103))]) X.1 X.2.1 dX0_copyFrom_61 hl (k := 1) rfl (by decide) (by decide) rfl (fun ls hl => ?_)
  refine lv_goto (tgt := 2) X.1 X.2.1 dX0_copyFrom_64 (by decide) ?_
  refine lv_iload_n X.1 X.2.1 dX0_copyFrom_2 rfl (lv_at hl 0 rfl) ?_
  refine lv_bipush (v := 6) X.1 X.2.1 dX0_copyFrom_3 (by decide) ?_
  refine zr_icmp_ge (a := 3) (b := 6) (tgt := 67) X dX0_copyFrom_5 (by decide) (by decide) (by decide) (fun c9 => absurd c9 (by decide)) (fun _ => ?_)
  refine lv_aload_n X.1 X.2.1 dX0_copyFrom_8 rfl (lv_at hl 2 rfl) ?_
  refine zr_get (r := 104) (v := .ref (ad 112)) X hW fs_X0_9_0 dX0_copyFrom_9 (zc_s104 hS) rfl rfl rfl ?_
  refine lv_iload_n X.1 X.2.1 dX0_copyFrom_12 rfl (lv_at hl 0 rfl) ?_
  refine lv_aload_n X.1 X.2.1 dX0_copyFrom_13 rfl (lv_at hl 3 rfl) ?_
  refine zr_get (r := 103) (v := .ref (ad 109)) X hW fs_X0_9_0 dX0_copyFrom_14 (zc_s103 hS) rfl rfl rfl ?_
  refine lv_iload_n X.1 X.2.1 dX0_copyFrom_17 rfl (lv_at hl 0 rfl) ?_
  refine zr_iald (r := 109) (v := u 5 3) X hW dX0_copyFrom_18 (zc_s109 hS) rfl rfl (zi_vp (by decide)) ((show g_29 109 (3 : Int32).toNatClampNeg = g_29 109 3 from rfl).trans ((show g_29 109 3 = g_27 109 3 from (by rw [hg_29]; rfl)).trans ((show g_27 109 3 = g_25 109 3 from (by rw [hg_27]; rfl)).trans ((show g_25 109 3 = g_23 109 3 from (by rw [hg_25]; rfl)).trans ((show g_23 109 3 = g_21 109 3 from (by rw [hg_23]; rfl)).trans ((show g_21 109 3 = g_19 109 3 from (by rw [hg_21]; rfl)).trans ((show g_19 109 3 = g_17 109 3 from (by rw [hg_19]; rfl)).trans ((show g_17 109 3 = g_15 109 3 from (by rw [hg_17]; rfl)).trans ((show g_15 109 3 = g_13 109 3 from (by rw [hg_15]; rfl)).trans ((show g_13 109 3 = g_11 109 3 from (by rw [hg_13]; rfl)).trans ((show g_11 109 3 = g_9 109 3 from (by rw [hg_11]; rfl)).trans ((show g_9 109 3 = g_7 109 3 from (by rw [hg_9]; rfl)).trans ((show g_7 109 3 = g_5 109 3 from (by rw [hg_7]; rfl)).trans ((show g_5 109 3 = g_3 109 3 from (by rw [hg_5]; rfl)).trans ((show g_3 109 3 = g_1 109 3 from (by rw [hg_3]; rfl)).trans ((show g_1 109 3 = g 109 3 from (by rw [hg_1]; rfl)).trans (hN0 _ _ _ _ rfl))))))))))))))))) ?_
  refine zr_iast (r := 112) X hW dX0_copyFrom_19 (zc_s112 hS) rfl rfl (zi_vp (by decide)) (fun H locs hW => ?_)
  obtain ⟨g_31, hg_31⟩ : ∃ z : zm_T, z = zm_w g_29 112 3 (u 5 3) := ⟨_, rfl⟩
  have hW : zw_St Y N0 ad sh g_31 s H locs := by rw [hg_31]; exact hW
  obtain ⟨u_32, hu_32⟩ : ∃ z : zm_T, z = zm_w u_30 5 9 (u 5 3) := ⟨_, rfl⟩
  have hN : zc_N g_31 u_32 := by rw [hg_31, hu_32]; exact zc_Nw hN rfl _
  refine lv_aload_n X.1 X.2.1 dX0_copyFrom_20 rfl (lv_at hl 2 rfl) ?_
  refine zr_get (r := 104) (v := .ref (ad 113)) X hW fs_X0_15_0 dX0_copyFrom_21 (zc_s104 hS) rfl rfl rfl ?_
  refine lv_iload_n X.1 X.2.1 dX0_copyFrom_24 rfl (lv_at hl 0 rfl) ?_
  refine lv_aload_n X.1 X.2.1 dX0_copyFrom_25 rfl (lv_at hl 3 rfl) ?_
  refine zr_get (r := 103) (v := .ref (ad 110)) X hW fs_X0_15_0 dX0_copyFrom_26 (zc_s103 hS) rfl rfl rfl ?_
  refine lv_iload_n X.1 X.2.1 dX0_copyFrom_29 rfl (lv_at hl 0 rfl) ?_
  refine zr_iald (r := 110) (v := u 6 3) X hW dX0_copyFrom_30 (zc_s110 hS) rfl rfl (zi_vp (by decide)) ((show g_31 110 (3 : Int32).toNatClampNeg = g_31 110 3 from rfl).trans ((show g_31 110 3 = g_29 110 3 from (by rw [hg_31]; rfl)).trans ((show g_29 110 3 = g_27 110 3 from (by rw [hg_29]; rfl)).trans ((show g_27 110 3 = g_25 110 3 from (by rw [hg_27]; rfl)).trans ((show g_25 110 3 = g_23 110 3 from (by rw [hg_25]; rfl)).trans ((show g_23 110 3 = g_21 110 3 from (by rw [hg_23]; rfl)).trans ((show g_21 110 3 = g_19 110 3 from (by rw [hg_21]; rfl)).trans ((show g_19 110 3 = g_17 110 3 from (by rw [hg_19]; rfl)).trans ((show g_17 110 3 = g_15 110 3 from (by rw [hg_17]; rfl)).trans ((show g_15 110 3 = g_13 110 3 from (by rw [hg_15]; rfl)).trans ((show g_13 110 3 = g_11 110 3 from (by rw [hg_13]; rfl)).trans ((show g_11 110 3 = g_9 110 3 from (by rw [hg_11]; rfl)).trans ((show g_9 110 3 = g_7 110 3 from (by rw [hg_9]; rfl)).trans ((show g_7 110 3 = g_5 110 3 from (by rw [hg_7]; rfl)).trans ((show g_5 110 3 = g_3 110 3 from (by rw [hg_5]; rfl)).trans ((show g_3 110 3 = g_1 110 3 from (by rw [hg_3]; rfl)).trans ((show g_1 110 3 = g 110 3 from (by rw [hg_1]; rfl)).trans (hN0 _ _ _ _ rfl)))))))))))))))))) ?_
  refine zr_iast (r := 113) X hW dX0_copyFrom_31 (zc_s113 hS) rfl rfl (zi_vp (by decide)) (fun H locs hW => ?_)
  obtain ⟨g_33, hg_33⟩ : ∃ z : zm_T, z = zm_w g_31 113 3 (u 6 3) := ⟨_, rfl⟩
  have hW : zw_St Y N0 ad sh g_33 s H locs := by rw [hg_33]; exact hW
  obtain ⟨u_34, hu_34⟩ : ∃ z : zm_T, z = zm_w u_32 6 9 (u 6 3) := ⟨_, rfl⟩
  have hN : zc_N g_33 u_34 := by rw [hg_33, hu_34]; exact zc_Nw hN rfl _
  refine lv_iconst (v := 0) X.1 X.2.1 dX0_copyFrom_32 (by decide) ?_
  refine lv_istore_n (lv' := [(3, .int 0), (2, .int 3), (0, .ref (ad 104)), (1, .ref (ad 103))]) X.1 X.2.1 dX0_copyFrom_33 rfl hl (by decide) rfl (fun ls hl => ?_)
  refine lv_iload_n X.1 X.2.1 dX0_copyFrom_34 rfl (lv_at hl 0 rfl) ?_
  refine lv_iconst (v := 3) X.1 X.2.1 dX0_copyFrom_35 (by decide) ?_
  refine zr_icmp_ge (a := 0) (b := 3) (tgt := 61) X dX0_copyFrom_36 (by decide) (by decide) (by decide) (fun c9 => absurd c9 (by decide)) (fun _ => ?_)
  refine lv_aload_n X.1 X.2.1 dX0_copyFrom_39 rfl (lv_at hl 2 rfl) ?_
  refine zr_get (r := 104) (v := .ref (ad 114)) X hW fs_X0_20_0 dX0_copyFrom_40 (zc_s104 hS) rfl rfl rfl ?_
  refine lv_iload_n X.1 X.2.1 dX0_copyFrom_43 rfl (lv_at hl 1 rfl) ?_
  refine zr_aald (r := 114) (v := .ref (ad 130)) X hW dX0_copyFrom_44 (zc_s114 hS) rfl rfl rfl (zi_vp (by decide)) rfl ?_
  refine lv_iload_n X.1 X.2.1 dX0_copyFrom_45 rfl (lv_at hl 0 rfl) ?_
  refine lv_aload_n X.1 X.2.1 dX0_copyFrom_46 rfl (lv_at hl 3 rfl) ?_
  refine zr_get (r := 103) (v := .ref (ad 111)) X hW fs_X0_20_0 dX0_copyFrom_47 (zc_s103 hS) rfl rfl rfl ?_
  refine lv_iload_n X.1 X.2.1 dX0_copyFrom_50 rfl (lv_at hl 1 rfl) ?_
  refine zr_aald (r := 111) (v := .ref (ad 124)) X hW dX0_copyFrom_51 (zc_s111 hS) rfl rfl rfl (zi_vp (by decide)) rfl ?_
  refine lv_iload_n X.1 X.2.1 dX0_copyFrom_52 rfl (lv_at hl 0 rfl) ?_
  refine zr_iald (r := 124) (v := u 7 9) X hW dX0_copyFrom_53 (zc_s124 hS) rfl rfl (zi_vp (by decide)) ((show g_33 124 (0 : Int32).toNatClampNeg = g_33 124 0 from rfl).trans ((show g_33 124 0 = g_31 124 0 from (by rw [hg_33]; rfl)).trans ((show g_31 124 0 = g_29 124 0 from (by rw [hg_31]; rfl)).trans ((show g_29 124 0 = g_27 124 0 from (by rw [hg_29]; rfl)).trans ((show g_27 124 0 = g_25 124 0 from (by rw [hg_27]; rfl)).trans ((show g_25 124 0 = g_23 124 0 from (by rw [hg_25]; rfl)).trans ((show g_23 124 0 = g_21 124 0 from (by rw [hg_23]; rfl)).trans ((show g_21 124 0 = g_19 124 0 from (by rw [hg_21]; rfl)).trans ((show g_19 124 0 = g_17 124 0 from (by rw [hg_19]; rfl)).trans ((show g_17 124 0 = g_15 124 0 from (by rw [hg_17]; rfl)).trans ((show g_15 124 0 = g_13 124 0 from (by rw [hg_15]; rfl)).trans ((show g_13 124 0 = g_11 124 0 from (by rw [hg_13]; rfl)).trans ((show g_11 124 0 = g_9 124 0 from (by rw [hg_11]; rfl)).trans ((show g_9 124 0 = g_7 124 0 from (by rw [hg_9]; rfl)).trans ((show g_7 124 0 = g_5 124 0 from (by rw [hg_7]; rfl)).trans ((show g_5 124 0 = g_3 124 0 from (by rw [hg_5]; rfl)).trans ((show g_3 124 0 = g_1 124 0 from (by rw [hg_3]; rfl)).trans ((show g_1 124 0 = g 124 0 from (by rw [hg_1]; rfl)).trans (hN0 _ _ _ _ rfl))))))))))))))))))) ?_
  refine zr_iast (r := 130) X hW dX0_copyFrom_54 (zc_s130 hS) rfl rfl (zi_vp (by decide)) (fun H locs hW => ?_)
  obtain ⟨g_35, hg_35⟩ : ∃ z : zm_T, z = zm_w g_33 130 0 (u 7 9) := ⟨_, rfl⟩
  have hW : zw_St Y N0 ad sh g_35 s H locs := by rw [hg_35]; exact hW
  obtain ⟨u_36, hu_36⟩ : ∃ z : zm_T, z = zm_w u_34 7 27 (u 7 9) := ⟨_, rfl⟩
  have hN : zc_N g_35 u_36 := by rw [hg_35, hu_36]; exact zc_Nw hN rfl _
  refine lv_iinc (v := 1) (lv' := [(3, .int 1), (2, .int 3), (0, .ref (ad 104)), (1, .ref (ad 103))]) X.1 X.2.1 dX0_copyFrom_55 hl (k := 0) rfl (by decide) (by decide) rfl (fun ls hl => ?_)
  refine lv_goto (tgt := 34) X.1 X.2.1 dX0_copyFrom_58 (by decide) ?_
  refine lv_iload_n X.1 X.2.1 dX0_copyFrom_34 rfl (lv_at hl 0 rfl) ?_
  refine lv_iconst (v := 3) X.1 X.2.1 dX0_copyFrom_35 (by decide) ?_
  refine zr_icmp_ge (a := 1) (b := 3) (tgt := 61) X dX0_copyFrom_36 (by decide) (by decide) (by decide) (fun c9 => absurd c9 (by decide)) (fun _ => ?_)
  refine lv_aload_n X.1 X.2.1 dX0_copyFrom_39 rfl (lv_at hl 2 rfl) ?_
  refine zr_get (r := 104) (v := .ref (ad 114)) X hW fs_X0_20_0 dX0_copyFrom_40 (zc_s104 hS) rfl rfl rfl ?_
  refine lv_iload_n X.1 X.2.1 dX0_copyFrom_43 rfl (lv_at hl 1 rfl) ?_
  refine zr_aald (r := 114) (v := .ref (ad 130)) X hW dX0_copyFrom_44 (zc_s114 hS) rfl rfl rfl (zi_vp (by decide)) rfl ?_
  refine lv_iload_n X.1 X.2.1 dX0_copyFrom_45 rfl (lv_at hl 0 rfl) ?_
  refine lv_aload_n X.1 X.2.1 dX0_copyFrom_46 rfl (lv_at hl 3 rfl) ?_
  refine zr_get (r := 103) (v := .ref (ad 111)) X hW fs_X0_20_0 dX0_copyFrom_47 (zc_s103 hS) rfl rfl rfl ?_
  refine lv_iload_n X.1 X.2.1 dX0_copyFrom_50 rfl (lv_at hl 1 rfl) ?_
  refine zr_aald (r := 111) (v := .ref (ad 124)) X hW dX0_copyFrom_51 (zc_s111 hS) rfl rfl rfl (zi_vp (by decide)) rfl ?_
  refine lv_iload_n X.1 X.2.1 dX0_copyFrom_52 rfl (lv_at hl 0 rfl) ?_
  refine zr_iald (r := 124) (v := u 7 10) X hW dX0_copyFrom_53 (zc_s124 hS) rfl rfl (zi_vp (by decide)) ((show g_35 124 (1 : Int32).toNatClampNeg = g_35 124 1 from rfl).trans ((show g_35 124 1 = g_33 124 1 from (by rw [hg_35]; rfl)).trans ((show g_33 124 1 = g_31 124 1 from (by rw [hg_33]; rfl)).trans ((show g_31 124 1 = g_29 124 1 from (by rw [hg_31]; rfl)).trans ((show g_29 124 1 = g_27 124 1 from (by rw [hg_29]; rfl)).trans ((show g_27 124 1 = g_25 124 1 from (by rw [hg_27]; rfl)).trans ((show g_25 124 1 = g_23 124 1 from (by rw [hg_25]; rfl)).trans ((show g_23 124 1 = g_21 124 1 from (by rw [hg_23]; rfl)).trans ((show g_21 124 1 = g_19 124 1 from (by rw [hg_21]; rfl)).trans ((show g_19 124 1 = g_17 124 1 from (by rw [hg_19]; rfl)).trans ((show g_17 124 1 = g_15 124 1 from (by rw [hg_17]; rfl)).trans ((show g_15 124 1 = g_13 124 1 from (by rw [hg_15]; rfl)).trans ((show g_13 124 1 = g_11 124 1 from (by rw [hg_13]; rfl)).trans ((show g_11 124 1 = g_9 124 1 from (by rw [hg_11]; rfl)).trans ((show g_9 124 1 = g_7 124 1 from (by rw [hg_9]; rfl)).trans ((show g_7 124 1 = g_5 124 1 from (by rw [hg_7]; rfl)).trans ((show g_5 124 1 = g_3 124 1 from (by rw [hg_5]; rfl)).trans ((show g_3 124 1 = g_1 124 1 from (by rw [hg_3]; rfl)).trans ((show g_1 124 1 = g 124 1 from (by rw [hg_1]; rfl)).trans (hN0 _ _ _ _ rfl)))))))))))))))))))) ?_
  refine zr_iast (r := 130) X hW dX0_copyFrom_54 (zc_s130 hS) rfl rfl (zi_vp (by decide)) (fun H locs hW => ?_)
  obtain ⟨g_37, hg_37⟩ : ∃ z : zm_T, z = zm_w g_35 130 1 (u 7 10) := ⟨_, rfl⟩
  have hW : zw_St Y N0 ad sh g_37 s H locs := by rw [hg_37]; exact hW
  obtain ⟨u_38, hu_38⟩ : ∃ z : zm_T, z = zm_w u_36 7 28 (u 7 10) := ⟨_, rfl⟩
  have hN : zc_N g_37 u_38 := by rw [hg_37, hu_38]; exact zc_Nw hN rfl _
  refine lv_iinc (v := 2) (lv' := [(3, .int 2), (2, .int 3), (0, .ref (ad 104)), (1, .ref (ad 103))]) X.1 X.2.1 dX0_copyFrom_55 hl (k := 0) rfl (by decide) (by decide) rfl (fun ls hl => ?_)
  refine lv_goto (tgt := 34) X.1 X.2.1 dX0_copyFrom_58 (by decide) ?_
  refine lv_iload_n X.1 X.2.1 dX0_copyFrom_34 rfl (lv_at hl 0 rfl) ?_
  refine lv_iconst (v := 3) X.1 X.2.1 dX0_copyFrom_35 (by decide) ?_
  refine zr_icmp_ge (a := 2) (b := 3) (tgt := 61) X dX0_copyFrom_36 (by decide) (by decide) (by decide) (fun c9 => absurd c9 (by decide)) (fun _ => ?_)
  refine lv_aload_n X.1 X.2.1 dX0_copyFrom_39 rfl (lv_at hl 2 rfl) ?_
  refine zr_get (r := 104) (v := .ref (ad 114)) X hW fs_X0_20_0 dX0_copyFrom_40 (zc_s104 hS) rfl rfl rfl ?_
  refine lv_iload_n X.1 X.2.1 dX0_copyFrom_43 rfl (lv_at hl 1 rfl) ?_
  refine zr_aald (r := 114) (v := .ref (ad 130)) X hW dX0_copyFrom_44 (zc_s114 hS) rfl rfl rfl (zi_vp (by decide)) rfl ?_
  refine lv_iload_n X.1 X.2.1 dX0_copyFrom_45 rfl (lv_at hl 0 rfl) ?_
  refine lv_aload_n X.1 X.2.1 dX0_copyFrom_46 rfl (lv_at hl 3 rfl) ?_
  refine zr_get (r := 103) (v := .ref (ad 111)) X hW fs_X0_20_0 dX0_copyFrom_47 (zc_s103 hS) rfl rfl rfl ?_
  refine lv_iload_n X.1 X.2.1 dX0_copyFrom_50 rfl (lv_at hl 1 rfl) ?_
  refine zr_aald (r := 111) (v := .ref (ad 124)) X hW dX0_copyFrom_51 (zc_s111 hS) rfl rfl rfl (zi_vp (by decide)) rfl ?_
  refine lv_iload_n X.1 X.2.1 dX0_copyFrom_52 rfl (lv_at hl 0 rfl) ?_
  refine zr_iald (r := 124) (v := u 7 11) X hW dX0_copyFrom_53 (zc_s124 hS) rfl rfl (zi_vp (by decide)) ((show g_37 124 (2 : Int32).toNatClampNeg = g_37 124 2 from rfl).trans ((show g_37 124 2 = g_35 124 2 from (by rw [hg_37]; rfl)).trans ((show g_35 124 2 = g_33 124 2 from (by rw [hg_35]; rfl)).trans ((show g_33 124 2 = g_31 124 2 from (by rw [hg_33]; rfl)).trans ((show g_31 124 2 = g_29 124 2 from (by rw [hg_31]; rfl)).trans ((show g_29 124 2 = g_27 124 2 from (by rw [hg_29]; rfl)).trans ((show g_27 124 2 = g_25 124 2 from (by rw [hg_27]; rfl)).trans ((show g_25 124 2 = g_23 124 2 from (by rw [hg_25]; rfl)).trans ((show g_23 124 2 = g_21 124 2 from (by rw [hg_23]; rfl)).trans ((show g_21 124 2 = g_19 124 2 from (by rw [hg_21]; rfl)).trans ((show g_19 124 2 = g_17 124 2 from (by rw [hg_19]; rfl)).trans ((show g_17 124 2 = g_15 124 2 from (by rw [hg_17]; rfl)).trans ((show g_15 124 2 = g_13 124 2 from (by rw [hg_15]; rfl)).trans ((show g_13 124 2 = g_11 124 2 from (by rw [hg_13]; rfl)).trans ((show g_11 124 2 = g_9 124 2 from (by rw [hg_11]; rfl)).trans ((show g_9 124 2 = g_7 124 2 from (by rw [hg_9]; rfl)).trans ((show g_7 124 2 = g_5 124 2 from (by rw [hg_7]; rfl)).trans ((show g_5 124 2 = g_3 124 2 from (by rw [hg_5]; rfl)).trans ((show g_3 124 2 = g_1 124 2 from (by rw [hg_3]; rfl)).trans ((show g_1 124 2 = g 124 2 from (by rw [hg_1]; rfl)).trans (hN0 _ _ _ _ rfl))))))))))))))))))))) ?_
  refine zr_iast (r := 130) X hW dX0_copyFrom_54 (zc_s130 hS) rfl rfl (zi_vp (by decide)) (fun H locs hW => ?_)
  obtain ⟨g_39, hg_39⟩ : ∃ z : zm_T, z = zm_w g_37 130 2 (u 7 11) := ⟨_, rfl⟩
  have hW : zw_St Y N0 ad sh g_39 s H locs := by rw [hg_39]; exact hW
  obtain ⟨u_40, hu_40⟩ : ∃ z : zm_T, z = zm_w u_38 7 29 (u 7 11) := ⟨_, rfl⟩
  have hN : zc_N g_39 u_40 := by rw [hg_39, hu_40]; exact zc_Nw hN rfl _
  refine lv_iinc (v := 3) (lv' := [(3, .int 3), (2, .int 3), (0, .ref (ad 104)), (1, .ref (ad 103))]) X.1 X.2.1 dX0_copyFrom_55 hl (k := 0) rfl (by decide) (by decide) rfl (fun ls hl => ?_)
  refine lv_goto (tgt := 34) X.1 X.2.1 dX0_copyFrom_58 (by decide) ?_
  refine lv_iload_n X.1 X.2.1 dX0_copyFrom_34 rfl (lv_at hl 0 rfl) ?_
  refine lv_iconst (v := 3) X.1 X.2.1 dX0_copyFrom_35 (by decide) ?_
  refine zr_icmp_ge (a := 3) (b := 3) (tgt := 61) X dX0_copyFrom_36 (by decide) (by decide) (by decide) (fun _ => ?_) (fun c9 => absurd c9 (by decide))
  refine lv_iinc (v := 4) (lv' := [(2, .int 4), (3, .int 3), (0, .ref (ad 104)), (1, .ref (ad 103))]) X.1 X.2.1 dX0_copyFrom_61 hl (k := 1) rfl (by decide) (by decide) rfl (fun ls hl => ?_)
  refine lv_goto (tgt := 2) X.1 X.2.1 dX0_copyFrom_64 (by decide) ?_
  refine lv_iload_n X.1 X.2.1 dX0_copyFrom_2 rfl (lv_at hl 0 rfl) ?_
  refine lv_bipush (v := 6) X.1 X.2.1 dX0_copyFrom_3 (by decide) ?_
  refine zr_icmp_ge (a := 4) (b := 6) (tgt := 67) X dX0_copyFrom_5 (by decide) (by decide) (by decide) (fun c9 => absurd c9 (by decide)) (fun _ => ?_)
  refine lv_aload_n X.1 X.2.1 dX0_copyFrom_8 rfl (lv_at hl 2 rfl) ?_
  refine zr_get (r := 104) (v := .ref (ad 112)) X hW fs_X0_9_0 dX0_copyFrom_9 (zc_s104 hS) rfl rfl rfl ?_
  refine lv_iload_n X.1 X.2.1 dX0_copyFrom_12 rfl (lv_at hl 0 rfl) ?_
  refine lv_aload_n X.1 X.2.1 dX0_copyFrom_13 rfl (lv_at hl 3 rfl) ?_
  refine zr_get (r := 103) (v := .ref (ad 109)) X hW fs_X0_9_0 dX0_copyFrom_14 (zc_s103 hS) rfl rfl rfl ?_
  refine lv_iload_n X.1 X.2.1 dX0_copyFrom_17 rfl (lv_at hl 0 rfl) ?_
  refine zr_iald (r := 109) (v := u 5 4) X hW dX0_copyFrom_18 (zc_s109 hS) rfl rfl (zi_vp (by decide)) ((show g_39 109 (4 : Int32).toNatClampNeg = g_39 109 4 from rfl).trans ((show g_39 109 4 = g_37 109 4 from (by rw [hg_39]; rfl)).trans ((show g_37 109 4 = g_35 109 4 from (by rw [hg_37]; rfl)).trans ((show g_35 109 4 = g_33 109 4 from (by rw [hg_35]; rfl)).trans ((show g_33 109 4 = g_31 109 4 from (by rw [hg_33]; rfl)).trans ((show g_31 109 4 = g_29 109 4 from (by rw [hg_31]; rfl)).trans ((show g_29 109 4 = g_27 109 4 from (by rw [hg_29]; rfl)).trans ((show g_27 109 4 = g_25 109 4 from (by rw [hg_27]; rfl)).trans ((show g_25 109 4 = g_23 109 4 from (by rw [hg_25]; rfl)).trans ((show g_23 109 4 = g_21 109 4 from (by rw [hg_23]; rfl)).trans ((show g_21 109 4 = g_19 109 4 from (by rw [hg_21]; rfl)).trans ((show g_19 109 4 = g_17 109 4 from (by rw [hg_19]; rfl)).trans ((show g_17 109 4 = g_15 109 4 from (by rw [hg_17]; rfl)).trans ((show g_15 109 4 = g_13 109 4 from (by rw [hg_15]; rfl)).trans ((show g_13 109 4 = g_11 109 4 from (by rw [hg_13]; rfl)).trans ((show g_11 109 4 = g_9 109 4 from (by rw [hg_11]; rfl)).trans ((show g_9 109 4 = g_7 109 4 from (by rw [hg_9]; rfl)).trans ((show g_7 109 4 = g_5 109 4 from (by rw [hg_7]; rfl)).trans ((show g_5 109 4 = g_3 109 4 from (by rw [hg_5]; rfl)).trans ((show g_3 109 4 = g_1 109 4 from (by rw [hg_3]; rfl)).trans ((show g_1 109 4 = g 109 4 from (by rw [hg_1]; rfl)).trans (hN0 _ _ _ _ rfl)))))))))))))))))))))) ?_
  refine zr_iast (r := 112) X hW dX0_copyFrom_19 (zc_s112 hS) rfl rfl (zi_vp (by decide)) (fun H locs hW => ?_)
  obtain ⟨g_41, hg_41⟩ : ∃ z : zm_T, z = zm_w g_39 112 4 (u 5 4) := ⟨_, rfl⟩
  have hW : zw_St Y N0 ad sh g_41 s H locs := by rw [hg_41]; exact hW
  obtain ⟨u_42, hu_42⟩ : ∃ z : zm_T, z = zm_w u_40 5 10 (u 5 4) := ⟨_, rfl⟩
  have hN : zc_N g_41 u_42 := by rw [hg_41, hu_42]; exact zc_Nw hN rfl _
  refine lv_aload_n X.1 X.2.1 dX0_copyFrom_20 rfl (lv_at hl 2 rfl) ?_
  refine zr_get (r := 104) (v := .ref (ad 113)) X hW fs_X0_15_0 dX0_copyFrom_21 (zc_s104 hS) rfl rfl rfl ?_
  refine lv_iload_n X.1 X.2.1 dX0_copyFrom_24 rfl (lv_at hl 0 rfl) ?_
  refine lv_aload_n X.1 X.2.1 dX0_copyFrom_25 rfl (lv_at hl 3 rfl) ?_
  refine zr_get (r := 103) (v := .ref (ad 110)) X hW fs_X0_15_0 dX0_copyFrom_26 (zc_s103 hS) rfl rfl rfl ?_
  refine lv_iload_n X.1 X.2.1 dX0_copyFrom_29 rfl (lv_at hl 0 rfl) ?_
  refine zr_iald (r := 110) (v := u 6 4) X hW dX0_copyFrom_30 (zc_s110 hS) rfl rfl (zi_vp (by decide)) ((show g_41 110 (4 : Int32).toNatClampNeg = g_41 110 4 from rfl).trans ((show g_41 110 4 = g_39 110 4 from (by rw [hg_41]; rfl)).trans ((show g_39 110 4 = g_37 110 4 from (by rw [hg_39]; rfl)).trans ((show g_37 110 4 = g_35 110 4 from (by rw [hg_37]; rfl)).trans ((show g_35 110 4 = g_33 110 4 from (by rw [hg_35]; rfl)).trans ((show g_33 110 4 = g_31 110 4 from (by rw [hg_33]; rfl)).trans ((show g_31 110 4 = g_29 110 4 from (by rw [hg_31]; rfl)).trans ((show g_29 110 4 = g_27 110 4 from (by rw [hg_29]; rfl)).trans ((show g_27 110 4 = g_25 110 4 from (by rw [hg_27]; rfl)).trans ((show g_25 110 4 = g_23 110 4 from (by rw [hg_25]; rfl)).trans ((show g_23 110 4 = g_21 110 4 from (by rw [hg_23]; rfl)).trans ((show g_21 110 4 = g_19 110 4 from (by rw [hg_21]; rfl)).trans ((show g_19 110 4 = g_17 110 4 from (by rw [hg_19]; rfl)).trans ((show g_17 110 4 = g_15 110 4 from (by rw [hg_17]; rfl)).trans ((show g_15 110 4 = g_13 110 4 from (by rw [hg_15]; rfl)).trans ((show g_13 110 4 = g_11 110 4 from (by rw [hg_13]; rfl)).trans ((show g_11 110 4 = g_9 110 4 from (by rw [hg_11]; rfl)).trans ((show g_9 110 4 = g_7 110 4 from (by rw [hg_9]; rfl)).trans ((show g_7 110 4 = g_5 110 4 from (by rw [hg_7]; rfl)).trans ((show g_5 110 4 = g_3 110 4 from (by rw [hg_5]; rfl)).trans ((show g_3 110 4 = g_1 110 4 from (by rw [hg_3]; rfl)).trans ((show g_1 110 4 = g 110 4 from (by rw [hg_1]; rfl)).trans (hN0 _ _ _ _ rfl))))))))))))))))))))))) ?_
  refine zr_iast (r := 113) X hW dX0_copyFrom_31 (zc_s113 hS) rfl rfl (zi_vp (by decide)) (fun H locs hW => ?_)
  obtain ⟨g_43, hg_43⟩ : ∃ z : zm_T, z = zm_w g_41 113 4 (u 6 4) := ⟨_, rfl⟩
  have hW : zw_St Y N0 ad sh g_43 s H locs := by rw [hg_43]; exact hW
  obtain ⟨u_44, hu_44⟩ : ∃ z : zm_T, z = zm_w u_42 6 10 (u 6 4) := ⟨_, rfl⟩
  have hN : zc_N g_43 u_44 := by rw [hg_43, hu_44]; exact zc_Nw hN rfl _
  refine lv_iconst (v := 0) X.1 X.2.1 dX0_copyFrom_32 (by decide) ?_
  refine lv_istore_n (lv' := [(3, .int 0), (2, .int 4), (0, .ref (ad 104)), (1, .ref (ad 103))]) X.1 X.2.1 dX0_copyFrom_33 rfl hl (by decide) rfl (fun ls hl => ?_)
  refine lv_iload_n X.1 X.2.1 dX0_copyFrom_34 rfl (lv_at hl 0 rfl) ?_
  refine lv_iconst (v := 3) X.1 X.2.1 dX0_copyFrom_35 (by decide) ?_
  refine zr_icmp_ge (a := 0) (b := 3) (tgt := 61) X dX0_copyFrom_36 (by decide) (by decide) (by decide) (fun c9 => absurd c9 (by decide)) (fun _ => ?_)
  refine lv_aload_n X.1 X.2.1 dX0_copyFrom_39 rfl (lv_at hl 2 rfl) ?_
  refine zr_get (r := 104) (v := .ref (ad 114)) X hW fs_X0_20_0 dX0_copyFrom_40 (zc_s104 hS) rfl rfl rfl ?_
  refine lv_iload_n X.1 X.2.1 dX0_copyFrom_43 rfl (lv_at hl 1 rfl) ?_
  refine zr_aald (r := 114) (v := .ref (ad 131)) X hW dX0_copyFrom_44 (zc_s114 hS) rfl rfl rfl (zi_vp (by decide)) rfl ?_
  refine lv_iload_n X.1 X.2.1 dX0_copyFrom_45 rfl (lv_at hl 0 rfl) ?_
  refine lv_aload_n X.1 X.2.1 dX0_copyFrom_46 rfl (lv_at hl 3 rfl) ?_
  refine zr_get (r := 103) (v := .ref (ad 111)) X hW fs_X0_20_0 dX0_copyFrom_47 (zc_s103 hS) rfl rfl rfl ?_
  refine lv_iload_n X.1 X.2.1 dX0_copyFrom_50 rfl (lv_at hl 1 rfl) ?_
  refine zr_aald (r := 111) (v := .ref (ad 125)) X hW dX0_copyFrom_51 (zc_s111 hS) rfl rfl rfl (zi_vp (by decide)) rfl ?_
  refine lv_iload_n X.1 X.2.1 dX0_copyFrom_52 rfl (lv_at hl 0 rfl) ?_
  refine zr_iald (r := 125) (v := u 7 12) X hW dX0_copyFrom_53 (zc_s125 hS) rfl rfl (zi_vp (by decide)) ((show g_43 125 (0 : Int32).toNatClampNeg = g_43 125 0 from rfl).trans ((show g_43 125 0 = g_41 125 0 from (by rw [hg_43]; rfl)).trans ((show g_41 125 0 = g_39 125 0 from (by rw [hg_41]; rfl)).trans ((show g_39 125 0 = g_37 125 0 from (by rw [hg_39]; rfl)).trans ((show g_37 125 0 = g_35 125 0 from (by rw [hg_37]; rfl)).trans ((show g_35 125 0 = g_33 125 0 from (by rw [hg_35]; rfl)).trans ((show g_33 125 0 = g_31 125 0 from (by rw [hg_33]; rfl)).trans ((show g_31 125 0 = g_29 125 0 from (by rw [hg_31]; rfl)).trans ((show g_29 125 0 = g_27 125 0 from (by rw [hg_29]; rfl)).trans ((show g_27 125 0 = g_25 125 0 from (by rw [hg_27]; rfl)).trans ((show g_25 125 0 = g_23 125 0 from (by rw [hg_25]; rfl)).trans ((show g_23 125 0 = g_21 125 0 from (by rw [hg_23]; rfl)).trans ((show g_21 125 0 = g_19 125 0 from (by rw [hg_21]; rfl)).trans ((show g_19 125 0 = g_17 125 0 from (by rw [hg_19]; rfl)).trans ((show g_17 125 0 = g_15 125 0 from (by rw [hg_17]; rfl)).trans ((show g_15 125 0 = g_13 125 0 from (by rw [hg_15]; rfl)).trans ((show g_13 125 0 = g_11 125 0 from (by rw [hg_13]; rfl)).trans ((show g_11 125 0 = g_9 125 0 from (by rw [hg_11]; rfl)).trans ((show g_9 125 0 = g_7 125 0 from (by rw [hg_9]; rfl)).trans ((show g_7 125 0 = g_5 125 0 from (by rw [hg_7]; rfl)).trans ((show g_5 125 0 = g_3 125 0 from (by rw [hg_5]; rfl)).trans ((show g_3 125 0 = g_1 125 0 from (by rw [hg_3]; rfl)).trans ((show g_1 125 0 = g 125 0 from (by rw [hg_1]; rfl)).trans (hN0 _ _ _ _ rfl)))))))))))))))))))))))) ?_
  refine zr_iast (r := 131) X hW dX0_copyFrom_54 (zc_s131 hS) rfl rfl (zi_vp (by decide)) (fun H locs hW => ?_)
  obtain ⟨g_45, hg_45⟩ : ∃ z : zm_T, z = zm_w g_43 131 0 (u 7 12) := ⟨_, rfl⟩
  have hW : zw_St Y N0 ad sh g_45 s H locs := by rw [hg_45]; exact hW
  obtain ⟨u_46, hu_46⟩ : ∃ z : zm_T, z = zm_w u_44 7 30 (u 7 12) := ⟨_, rfl⟩
  have hN : zc_N g_45 u_46 := by rw [hg_45, hu_46]; exact zc_Nw hN rfl _
  refine lv_iinc (v := 1) (lv' := [(3, .int 1), (2, .int 4), (0, .ref (ad 104)), (1, .ref (ad 103))]) X.1 X.2.1 dX0_copyFrom_55 hl (k := 0) rfl (by decide) (by decide) rfl (fun ls hl => ?_)
  refine lv_goto (tgt := 34) X.1 X.2.1 dX0_copyFrom_58 (by decide) ?_
  refine lv_iload_n X.1 X.2.1 dX0_copyFrom_34 rfl (lv_at hl 0 rfl) ?_
  refine lv_iconst (v := 3) X.1 X.2.1 dX0_copyFrom_35 (by decide) ?_
  refine zr_icmp_ge (a := 1) (b := 3) (tgt := 61) X dX0_copyFrom_36 (by decide) (by decide) (by decide) (fun c9 => absurd c9 (by decide)) (fun _ => ?_)
  refine lv_aload_n X.1 X.2.1 dX0_copyFrom_39 rfl (lv_at hl 2 rfl) ?_
  refine zr_get (r := 104) (v := .ref (ad 114)) X hW fs_X0_20_0 dX0_copyFrom_40 (zc_s104 hS) rfl rfl rfl ?_
  refine lv_iload_n X.1 X.2.1 dX0_copyFrom_43 rfl (lv_at hl 1 rfl) ?_
  refine zr_aald (r := 114) (v := .ref (ad 131)) X hW dX0_copyFrom_44 (zc_s114 hS) rfl rfl rfl (zi_vp (by decide)) rfl ?_
  refine lv_iload_n X.1 X.2.1 dX0_copyFrom_45 rfl (lv_at hl 0 rfl) ?_
  refine lv_aload_n X.1 X.2.1 dX0_copyFrom_46 rfl (lv_at hl 3 rfl) ?_
  refine zr_get (r := 103) (v := .ref (ad 111)) X hW fs_X0_20_0 dX0_copyFrom_47 (zc_s103 hS) rfl rfl rfl ?_
  refine lv_iload_n X.1 X.2.1 dX0_copyFrom_50 rfl (lv_at hl 1 rfl) ?_
  refine zr_aald (r := 111) (v := .ref (ad 125)) X hW dX0_copyFrom_51 (zc_s111 hS) rfl rfl rfl (zi_vp (by decide)) rfl ?_
  refine lv_iload_n X.1 X.2.1 dX0_copyFrom_52 rfl (lv_at hl 0 rfl) ?_
  refine zr_iald (r := 125) (v := u 7 13) X hW dX0_copyFrom_53 (zc_s125 hS) rfl rfl (zi_vp (by decide)) ((show g_45 125 (1 : Int32).toNatClampNeg = g_45 125 1 from rfl).trans ((show g_45 125 1 = g_43 125 1 from (by rw [hg_45]; rfl)).trans ((show g_43 125 1 = g_41 125 1 from (by rw [hg_43]; rfl)).trans ((show g_41 125 1 = g_39 125 1 from (by rw [hg_41]; rfl)).trans ((show g_39 125 1 = g_37 125 1 from (by rw [hg_39]; rfl)).trans ((show g_37 125 1 = g_35 125 1 from (by rw [hg_37]; rfl)).trans ((show g_35 125 1 = g_33 125 1 from (by rw [hg_35]; rfl)).trans ((show g_33 125 1 = g_31 125 1 from (by rw [hg_33]; rfl)).trans ((show g_31 125 1 = g_29 125 1 from (by rw [hg_31]; rfl)).trans ((show g_29 125 1 = g_27 125 1 from (by rw [hg_29]; rfl)).trans ((show g_27 125 1 = g_25 125 1 from (by rw [hg_27]; rfl)).trans ((show g_25 125 1 = g_23 125 1 from (by rw [hg_25]; rfl)).trans ((show g_23 125 1 = g_21 125 1 from (by rw [hg_23]; rfl)).trans ((show g_21 125 1 = g_19 125 1 from (by rw [hg_21]; rfl)).trans ((show g_19 125 1 = g_17 125 1 from (by rw [hg_19]; rfl)).trans ((show g_17 125 1 = g_15 125 1 from (by rw [hg_17]; rfl)).trans ((show g_15 125 1 = g_13 125 1 from (by rw [hg_15]; rfl)).trans ((show g_13 125 1 = g_11 125 1 from (by rw [hg_13]; rfl)).trans ((show g_11 125 1 = g_9 125 1 from (by rw [hg_11]; rfl)).trans ((show g_9 125 1 = g_7 125 1 from (by rw [hg_9]; rfl)).trans ((show g_7 125 1 = g_5 125 1 from (by rw [hg_7]; rfl)).trans ((show g_5 125 1 = g_3 125 1 from (by rw [hg_5]; rfl)).trans ((show g_3 125 1 = g_1 125 1 from (by rw [hg_3]; rfl)).trans ((show g_1 125 1 = g 125 1 from (by rw [hg_1]; rfl)).trans (hN0 _ _ _ _ rfl))))))))))))))))))))))))) ?_
  refine zr_iast (r := 131) X hW dX0_copyFrom_54 (zc_s131 hS) rfl rfl (zi_vp (by decide)) (fun H locs hW => ?_)
  obtain ⟨g_47, hg_47⟩ : ∃ z : zm_T, z = zm_w g_45 131 1 (u 7 13) := ⟨_, rfl⟩
  have hW : zw_St Y N0 ad sh g_47 s H locs := by rw [hg_47]; exact hW
  obtain ⟨u_48, hu_48⟩ : ∃ z : zm_T, z = zm_w u_46 7 31 (u 7 13) := ⟨_, rfl⟩
  have hN : zc_N g_47 u_48 := by rw [hg_47, hu_48]; exact zc_Nw hN rfl _
  refine lv_iinc (v := 2) (lv' := [(3, .int 2), (2, .int 4), (0, .ref (ad 104)), (1, .ref (ad 103))]) X.1 X.2.1 dX0_copyFrom_55 hl (k := 0) rfl (by decide) (by decide) rfl (fun ls hl => ?_)
  refine lv_goto (tgt := 34) X.1 X.2.1 dX0_copyFrom_58 (by decide) ?_
  refine lv_iload_n X.1 X.2.1 dX0_copyFrom_34 rfl (lv_at hl 0 rfl) ?_
  refine lv_iconst (v := 3) X.1 X.2.1 dX0_copyFrom_35 (by decide) ?_
  refine zr_icmp_ge (a := 2) (b := 3) (tgt := 61) X dX0_copyFrom_36 (by decide) (by decide) (by decide) (fun c9 => absurd c9 (by decide)) (fun _ => ?_)
  refine lv_aload_n X.1 X.2.1 dX0_copyFrom_39 rfl (lv_at hl 2 rfl) ?_
  refine zr_get (r := 104) (v := .ref (ad 114)) X hW fs_X0_20_0 dX0_copyFrom_40 (zc_s104 hS) rfl rfl rfl ?_
  refine lv_iload_n X.1 X.2.1 dX0_copyFrom_43 rfl (lv_at hl 1 rfl) ?_
  refine zr_aald (r := 114) (v := .ref (ad 131)) X hW dX0_copyFrom_44 (zc_s114 hS) rfl rfl rfl (zi_vp (by decide)) rfl ?_
  refine lv_iload_n X.1 X.2.1 dX0_copyFrom_45 rfl (lv_at hl 0 rfl) ?_
  refine lv_aload_n X.1 X.2.1 dX0_copyFrom_46 rfl (lv_at hl 3 rfl) ?_
  refine zr_get (r := 103) (v := .ref (ad 111)) X hW fs_X0_20_0 dX0_copyFrom_47 (zc_s103 hS) rfl rfl rfl ?_
  refine lv_iload_n X.1 X.2.1 dX0_copyFrom_50 rfl (lv_at hl 1 rfl) ?_
  refine zr_aald (r := 111) (v := .ref (ad 125)) X hW dX0_copyFrom_51 (zc_s111 hS) rfl rfl rfl (zi_vp (by decide)) rfl ?_
  refine lv_iload_n X.1 X.2.1 dX0_copyFrom_52 rfl (lv_at hl 0 rfl) ?_
  refine zr_iald (r := 125) (v := u 7 14) X hW dX0_copyFrom_53 (zc_s125 hS) rfl rfl (zi_vp (by decide)) ((show g_47 125 (2 : Int32).toNatClampNeg = g_47 125 2 from rfl).trans ((show g_47 125 2 = g_45 125 2 from (by rw [hg_47]; rfl)).trans ((show g_45 125 2 = g_43 125 2 from (by rw [hg_45]; rfl)).trans ((show g_43 125 2 = g_41 125 2 from (by rw [hg_43]; rfl)).trans ((show g_41 125 2 = g_39 125 2 from (by rw [hg_41]; rfl)).trans ((show g_39 125 2 = g_37 125 2 from (by rw [hg_39]; rfl)).trans ((show g_37 125 2 = g_35 125 2 from (by rw [hg_37]; rfl)).trans ((show g_35 125 2 = g_33 125 2 from (by rw [hg_35]; rfl)).trans ((show g_33 125 2 = g_31 125 2 from (by rw [hg_33]; rfl)).trans ((show g_31 125 2 = g_29 125 2 from (by rw [hg_31]; rfl)).trans ((show g_29 125 2 = g_27 125 2 from (by rw [hg_29]; rfl)).trans ((show g_27 125 2 = g_25 125 2 from (by rw [hg_27]; rfl)).trans ((show g_25 125 2 = g_23 125 2 from (by rw [hg_25]; rfl)).trans ((show g_23 125 2 = g_21 125 2 from (by rw [hg_23]; rfl)).trans ((show g_21 125 2 = g_19 125 2 from (by rw [hg_21]; rfl)).trans ((show g_19 125 2 = g_17 125 2 from (by rw [hg_19]; rfl)).trans ((show g_17 125 2 = g_15 125 2 from (by rw [hg_17]; rfl)).trans ((show g_15 125 2 = g_13 125 2 from (by rw [hg_15]; rfl)).trans ((show g_13 125 2 = g_11 125 2 from (by rw [hg_13]; rfl)).trans ((show g_11 125 2 = g_9 125 2 from (by rw [hg_11]; rfl)).trans ((show g_9 125 2 = g_7 125 2 from (by rw [hg_9]; rfl)).trans ((show g_7 125 2 = g_5 125 2 from (by rw [hg_7]; rfl)).trans ((show g_5 125 2 = g_3 125 2 from (by rw [hg_5]; rfl)).trans ((show g_3 125 2 = g_1 125 2 from (by rw [hg_3]; rfl)).trans ((show g_1 125 2 = g 125 2 from (by rw [hg_1]; rfl)).trans (hN0 _ _ _ _ rfl)))))))))))))))))))))))))) ?_
  refine zr_iast (r := 131) X hW dX0_copyFrom_54 (zc_s131 hS) rfl rfl (zi_vp (by decide)) (fun H locs hW => ?_)
  obtain ⟨g_49, hg_49⟩ : ∃ z : zm_T, z = zm_w g_47 131 2 (u 7 14) := ⟨_, rfl⟩
  have hW : zw_St Y N0 ad sh g_49 s H locs := by rw [hg_49]; exact hW
  obtain ⟨u_50, hu_50⟩ : ∃ z : zm_T, z = zm_w u_48 7 32 (u 7 14) := ⟨_, rfl⟩
  have hN : zc_N g_49 u_50 := by rw [hg_49, hu_50]; exact zc_Nw hN rfl _
  refine lv_iinc (v := 3) (lv' := [(3, .int 3), (2, .int 4), (0, .ref (ad 104)), (1, .ref (ad 103))]) X.1 X.2.1 dX0_copyFrom_55 hl (k := 0) rfl (by decide) (by decide) rfl (fun ls hl => ?_)
  refine lv_goto (tgt := 34) X.1 X.2.1 dX0_copyFrom_58 (by decide) ?_
  refine lv_iload_n X.1 X.2.1 dX0_copyFrom_34 rfl (lv_at hl 0 rfl) ?_
  refine lv_iconst (v := 3) X.1 X.2.1 dX0_copyFrom_35 (by decide) ?_
  refine zr_icmp_ge (a := 3) (b := 3) (tgt := 61) X dX0_copyFrom_36 (by decide) (by decide) (by decide) (fun _ => ?_) (fun c9 => absurd c9 (by decide))
  refine lv_iinc (v := 5) (lv' := [(2, .int 5), (3, .int 3), (0, .ref (ad 104)), (1, .ref (ad 103))]) X.1 X.2.1 dX0_copyFrom_61 hl (k := 1) rfl (by decide) (by decide) rfl (fun ls hl => ?_)
  refine lv_goto (tgt := 2) X.1 X.2.1 dX0_copyFrom_64 (by decide) ?_
  refine lv_iload_n X.1 X.2.1 dX0_copyFrom_2 rfl (lv_at hl 0 rfl) ?_
  refine lv_bipush (v := 6) X.1 X.2.1 dX0_copyFrom_3 (by decide) ?_
  refine zr_icmp_ge (a := 5) (b := 6) (tgt := 67) X dX0_copyFrom_5 (by decide) (by decide) (by decide) (fun c9 => absurd c9 (by decide)) (fun _ => ?_)
  refine lv_aload_n X.1 X.2.1 dX0_copyFrom_8 rfl (lv_at hl 2 rfl) ?_
  refine zr_get (r := 104) (v := .ref (ad 112)) X hW fs_X0_9_0 dX0_copyFrom_9 (zc_s104 hS) rfl rfl rfl ?_
  refine lv_iload_n X.1 X.2.1 dX0_copyFrom_12 rfl (lv_at hl 0 rfl) ?_
  refine lv_aload_n X.1 X.2.1 dX0_copyFrom_13 rfl (lv_at hl 3 rfl) ?_
  refine zr_get (r := 103) (v := .ref (ad 109)) X hW fs_X0_9_0 dX0_copyFrom_14 (zc_s103 hS) rfl rfl rfl ?_
  refine lv_iload_n X.1 X.2.1 dX0_copyFrom_17 rfl (lv_at hl 0 rfl) ?_
  refine zr_iald (r := 109) (v := u 5 5) X hW dX0_copyFrom_18 (zc_s109 hS) rfl rfl (zi_vp (by decide)) ((show g_49 109 (5 : Int32).toNatClampNeg = g_49 109 5 from rfl).trans ((show g_49 109 5 = g_47 109 5 from (by rw [hg_49]; rfl)).trans ((show g_47 109 5 = g_45 109 5 from (by rw [hg_47]; rfl)).trans ((show g_45 109 5 = g_43 109 5 from (by rw [hg_45]; rfl)).trans ((show g_43 109 5 = g_41 109 5 from (by rw [hg_43]; rfl)).trans ((show g_41 109 5 = g_39 109 5 from (by rw [hg_41]; rfl)).trans ((show g_39 109 5 = g_37 109 5 from (by rw [hg_39]; rfl)).trans ((show g_37 109 5 = g_35 109 5 from (by rw [hg_37]; rfl)).trans ((show g_35 109 5 = g_33 109 5 from (by rw [hg_35]; rfl)).trans ((show g_33 109 5 = g_31 109 5 from (by rw [hg_33]; rfl)).trans ((show g_31 109 5 = g_29 109 5 from (by rw [hg_31]; rfl)).trans ((show g_29 109 5 = g_27 109 5 from (by rw [hg_29]; rfl)).trans ((show g_27 109 5 = g_25 109 5 from (by rw [hg_27]; rfl)).trans ((show g_25 109 5 = g_23 109 5 from (by rw [hg_25]; rfl)).trans ((show g_23 109 5 = g_21 109 5 from (by rw [hg_23]; rfl)).trans ((show g_21 109 5 = g_19 109 5 from (by rw [hg_21]; rfl)).trans ((show g_19 109 5 = g_17 109 5 from (by rw [hg_19]; rfl)).trans ((show g_17 109 5 = g_15 109 5 from (by rw [hg_17]; rfl)).trans ((show g_15 109 5 = g_13 109 5 from (by rw [hg_15]; rfl)).trans ((show g_13 109 5 = g_11 109 5 from (by rw [hg_13]; rfl)).trans ((show g_11 109 5 = g_9 109 5 from (by rw [hg_11]; rfl)).trans ((show g_9 109 5 = g_7 109 5 from (by rw [hg_9]; rfl)).trans ((show g_7 109 5 = g_5 109 5 from (by rw [hg_7]; rfl)).trans ((show g_5 109 5 = g_3 109 5 from (by rw [hg_5]; rfl)).trans ((show g_3 109 5 = g_1 109 5 from (by rw [hg_3]; rfl)).trans ((show g_1 109 5 = g 109 5 from (by rw [hg_1]; rfl)).trans (hN0 _ _ _ _ rfl))))))))))))))))))))))))))) ?_
  refine zr_iast (r := 112) X hW dX0_copyFrom_19 (zc_s112 hS) rfl rfl (zi_vp (by decide)) (fun H locs hW => ?_)
  obtain ⟨g_51, hg_51⟩ : ∃ z : zm_T, z = zm_w g_49 112 5 (u 5 5) := ⟨_, rfl⟩
  have hW : zw_St Y N0 ad sh g_51 s H locs := by rw [hg_51]; exact hW
  obtain ⟨u_52, hu_52⟩ : ∃ z : zm_T, z = zm_w u_50 5 11 (u 5 5) := ⟨_, rfl⟩
  have hN : zc_N g_51 u_52 := by rw [hg_51, hu_52]; exact zc_Nw hN rfl _
  refine lv_aload_n X.1 X.2.1 dX0_copyFrom_20 rfl (lv_at hl 2 rfl) ?_
  refine zr_get (r := 104) (v := .ref (ad 113)) X hW fs_X0_15_0 dX0_copyFrom_21 (zc_s104 hS) rfl rfl rfl ?_
  refine lv_iload_n X.1 X.2.1 dX0_copyFrom_24 rfl (lv_at hl 0 rfl) ?_
  refine lv_aload_n X.1 X.2.1 dX0_copyFrom_25 rfl (lv_at hl 3 rfl) ?_
  refine zr_get (r := 103) (v := .ref (ad 110)) X hW fs_X0_15_0 dX0_copyFrom_26 (zc_s103 hS) rfl rfl rfl ?_
  refine lv_iload_n X.1 X.2.1 dX0_copyFrom_29 rfl (lv_at hl 0 rfl) ?_
  refine zr_iald (r := 110) (v := u 6 5) X hW dX0_copyFrom_30 (zc_s110 hS) rfl rfl (zi_vp (by decide)) ((show g_51 110 (5 : Int32).toNatClampNeg = g_51 110 5 from rfl).trans ((show g_51 110 5 = g_49 110 5 from (by rw [hg_51]; rfl)).trans ((show g_49 110 5 = g_47 110 5 from (by rw [hg_49]; rfl)).trans ((show g_47 110 5 = g_45 110 5 from (by rw [hg_47]; rfl)).trans ((show g_45 110 5 = g_43 110 5 from (by rw [hg_45]; rfl)).trans ((show g_43 110 5 = g_41 110 5 from (by rw [hg_43]; rfl)).trans ((show g_41 110 5 = g_39 110 5 from (by rw [hg_41]; rfl)).trans ((show g_39 110 5 = g_37 110 5 from (by rw [hg_39]; rfl)).trans ((show g_37 110 5 = g_35 110 5 from (by rw [hg_37]; rfl)).trans ((show g_35 110 5 = g_33 110 5 from (by rw [hg_35]; rfl)).trans ((show g_33 110 5 = g_31 110 5 from (by rw [hg_33]; rfl)).trans ((show g_31 110 5 = g_29 110 5 from (by rw [hg_31]; rfl)).trans ((show g_29 110 5 = g_27 110 5 from (by rw [hg_29]; rfl)).trans ((show g_27 110 5 = g_25 110 5 from (by rw [hg_27]; rfl)).trans ((show g_25 110 5 = g_23 110 5 from (by rw [hg_25]; rfl)).trans ((show g_23 110 5 = g_21 110 5 from (by rw [hg_23]; rfl)).trans ((show g_21 110 5 = g_19 110 5 from (by rw [hg_21]; rfl)).trans ((show g_19 110 5 = g_17 110 5 from (by rw [hg_19]; rfl)).trans ((show g_17 110 5 = g_15 110 5 from (by rw [hg_17]; rfl)).trans ((show g_15 110 5 = g_13 110 5 from (by rw [hg_15]; rfl)).trans ((show g_13 110 5 = g_11 110 5 from (by rw [hg_13]; rfl)).trans ((show g_11 110 5 = g_9 110 5 from (by rw [hg_11]; rfl)).trans ((show g_9 110 5 = g_7 110 5 from (by rw [hg_9]; rfl)).trans ((show g_7 110 5 = g_5 110 5 from (by rw [hg_7]; rfl)).trans ((show g_5 110 5 = g_3 110 5 from (by rw [hg_5]; rfl)).trans ((show g_3 110 5 = g_1 110 5 from (by rw [hg_3]; rfl)).trans ((show g_1 110 5 = g 110 5 from (by rw [hg_1]; rfl)).trans (hN0 _ _ _ _ rfl)))))))))))))))))))))))))))) ?_
  refine zr_iast (r := 113) X hW dX0_copyFrom_31 (zc_s113 hS) rfl rfl (zi_vp (by decide)) (fun H locs hW => ?_)
  obtain ⟨g_53, hg_53⟩ : ∃ z : zm_T, z = zm_w g_51 113 5 (u 6 5) := ⟨_, rfl⟩
  have hW : zw_St Y N0 ad sh g_53 s H locs := by rw [hg_53]; exact hW
  obtain ⟨u_54, hu_54⟩ : ∃ z : zm_T, z = zm_w u_52 6 11 (u 6 5) := ⟨_, rfl⟩
  have hN : zc_N g_53 u_54 := by rw [hg_53, hu_54]; exact zc_Nw hN rfl _
  refine lv_iconst (v := 0) X.1 X.2.1 dX0_copyFrom_32 (by decide) ?_
  refine lv_istore_n (lv' := [(3, .int 0), (2, .int 5), (0, .ref (ad 104)), (1, .ref (ad 103))]) X.1 X.2.1 dX0_copyFrom_33 rfl hl (by decide) rfl (fun ls hl => ?_)
  refine lv_iload_n X.1 X.2.1 dX0_copyFrom_34 rfl (lv_at hl 0 rfl) ?_
  refine lv_iconst (v := 3) X.1 X.2.1 dX0_copyFrom_35 (by decide) ?_
  refine zr_icmp_ge (a := 0) (b := 3) (tgt := 61) X dX0_copyFrom_36 (by decide) (by decide) (by decide) (fun c9 => absurd c9 (by decide)) (fun _ => ?_)
  refine lv_aload_n X.1 X.2.1 dX0_copyFrom_39 rfl (lv_at hl 2 rfl) ?_
  refine zr_get (r := 104) (v := .ref (ad 114)) X hW fs_X0_20_0 dX0_copyFrom_40 (zc_s104 hS) rfl rfl rfl ?_
  refine lv_iload_n X.1 X.2.1 dX0_copyFrom_43 rfl (lv_at hl 1 rfl) ?_
  refine zr_aald (r := 114) (v := .ref (ad 132)) X hW dX0_copyFrom_44 (zc_s114 hS) rfl rfl rfl (zi_vp (by decide)) rfl ?_
  refine lv_iload_n X.1 X.2.1 dX0_copyFrom_45 rfl (lv_at hl 0 rfl) ?_
  refine lv_aload_n X.1 X.2.1 dX0_copyFrom_46 rfl (lv_at hl 3 rfl) ?_
  refine zr_get (r := 103) (v := .ref (ad 111)) X hW fs_X0_20_0 dX0_copyFrom_47 (zc_s103 hS) rfl rfl rfl ?_
  refine lv_iload_n X.1 X.2.1 dX0_copyFrom_50 rfl (lv_at hl 1 rfl) ?_
  refine zr_aald (r := 111) (v := .ref (ad 126)) X hW dX0_copyFrom_51 (zc_s111 hS) rfl rfl rfl (zi_vp (by decide)) rfl ?_
  refine lv_iload_n X.1 X.2.1 dX0_copyFrom_52 rfl (lv_at hl 0 rfl) ?_
  refine zr_iald (r := 126) (v := u 7 15) X hW dX0_copyFrom_53 (zc_s126 hS) rfl rfl (zi_vp (by decide)) ((show g_53 126 (0 : Int32).toNatClampNeg = g_53 126 0 from rfl).trans ((show g_53 126 0 = g_51 126 0 from (by rw [hg_53]; rfl)).trans ((show g_51 126 0 = g_49 126 0 from (by rw [hg_51]; rfl)).trans ((show g_49 126 0 = g_47 126 0 from (by rw [hg_49]; rfl)).trans ((show g_47 126 0 = g_45 126 0 from (by rw [hg_47]; rfl)).trans ((show g_45 126 0 = g_43 126 0 from (by rw [hg_45]; rfl)).trans ((show g_43 126 0 = g_41 126 0 from (by rw [hg_43]; rfl)).trans ((show g_41 126 0 = g_39 126 0 from (by rw [hg_41]; rfl)).trans ((show g_39 126 0 = g_37 126 0 from (by rw [hg_39]; rfl)).trans ((show g_37 126 0 = g_35 126 0 from (by rw [hg_37]; rfl)).trans ((show g_35 126 0 = g_33 126 0 from (by rw [hg_35]; rfl)).trans ((show g_33 126 0 = g_31 126 0 from (by rw [hg_33]; rfl)).trans ((show g_31 126 0 = g_29 126 0 from (by rw [hg_31]; rfl)).trans ((show g_29 126 0 = g_27 126 0 from (by rw [hg_29]; rfl)).trans ((show g_27 126 0 = g_25 126 0 from (by rw [hg_27]; rfl)).trans ((show g_25 126 0 = g_23 126 0 from (by rw [hg_25]; rfl)).trans ((show g_23 126 0 = g_21 126 0 from (by rw [hg_23]; rfl)).trans ((show g_21 126 0 = g_19 126 0 from (by rw [hg_21]; rfl)).trans ((show g_19 126 0 = g_17 126 0 from (by rw [hg_19]; rfl)).trans ((show g_17 126 0 = g_15 126 0 from (by rw [hg_17]; rfl)).trans ((show g_15 126 0 = g_13 126 0 from (by rw [hg_15]; rfl)).trans ((show g_13 126 0 = g_11 126 0 from (by rw [hg_13]; rfl)).trans ((show g_11 126 0 = g_9 126 0 from (by rw [hg_11]; rfl)).trans ((show g_9 126 0 = g_7 126 0 from (by rw [hg_9]; rfl)).trans ((show g_7 126 0 = g_5 126 0 from (by rw [hg_7]; rfl)).trans ((show g_5 126 0 = g_3 126 0 from (by rw [hg_5]; rfl)).trans ((show g_3 126 0 = g_1 126 0 from (by rw [hg_3]; rfl)).trans ((show g_1 126 0 = g 126 0 from (by rw [hg_1]; rfl)).trans (hN0 _ _ _ _ rfl))))))))))))))))))))))))))))) ?_
  refine zr_iast (r := 132) X hW dX0_copyFrom_54 (zc_s132 hS) rfl rfl (zi_vp (by decide)) (fun H locs hW => ?_)
  obtain ⟨g_55, hg_55⟩ : ∃ z : zm_T, z = zm_w g_53 132 0 (u 7 15) := ⟨_, rfl⟩
  have hW : zw_St Y N0 ad sh g_55 s H locs := by rw [hg_55]; exact hW
  obtain ⟨u_56, hu_56⟩ : ∃ z : zm_T, z = zm_w u_54 7 33 (u 7 15) := ⟨_, rfl⟩
  have hN : zc_N g_55 u_56 := by rw [hg_55, hu_56]; exact zc_Nw hN rfl _
  refine lv_iinc (v := 1) (lv' := [(3, .int 1), (2, .int 5), (0, .ref (ad 104)), (1, .ref (ad 103))]) X.1 X.2.1 dX0_copyFrom_55 hl (k := 0) rfl (by decide) (by decide) rfl (fun ls hl => ?_)
  refine lv_goto (tgt := 34) X.1 X.2.1 dX0_copyFrom_58 (by decide) ?_
  refine lv_iload_n X.1 X.2.1 dX0_copyFrom_34 rfl (lv_at hl 0 rfl) ?_
  refine lv_iconst (v := 3) X.1 X.2.1 dX0_copyFrom_35 (by decide) ?_
  refine zr_icmp_ge (a := 1) (b := 3) (tgt := 61) X dX0_copyFrom_36 (by decide) (by decide) (by decide) (fun c9 => absurd c9 (by decide)) (fun _ => ?_)
  refine lv_aload_n X.1 X.2.1 dX0_copyFrom_39 rfl (lv_at hl 2 rfl) ?_
  refine zr_get (r := 104) (v := .ref (ad 114)) X hW fs_X0_20_0 dX0_copyFrom_40 (zc_s104 hS) rfl rfl rfl ?_
  refine lv_iload_n X.1 X.2.1 dX0_copyFrom_43 rfl (lv_at hl 1 rfl) ?_
  refine zr_aald (r := 114) (v := .ref (ad 132)) X hW dX0_copyFrom_44 (zc_s114 hS) rfl rfl rfl (zi_vp (by decide)) rfl ?_
  refine lv_iload_n X.1 X.2.1 dX0_copyFrom_45 rfl (lv_at hl 0 rfl) ?_
  refine lv_aload_n X.1 X.2.1 dX0_copyFrom_46 rfl (lv_at hl 3 rfl) ?_
  refine zr_get (r := 103) (v := .ref (ad 111)) X hW fs_X0_20_0 dX0_copyFrom_47 (zc_s103 hS) rfl rfl rfl ?_
  refine lv_iload_n X.1 X.2.1 dX0_copyFrom_50 rfl (lv_at hl 1 rfl) ?_
  refine zr_aald (r := 111) (v := .ref (ad 126)) X hW dX0_copyFrom_51 (zc_s111 hS) rfl rfl rfl (zi_vp (by decide)) rfl ?_
  refine lv_iload_n X.1 X.2.1 dX0_copyFrom_52 rfl (lv_at hl 0 rfl) ?_
  refine zr_iald (r := 126) (v := u 7 16) X hW dX0_copyFrom_53 (zc_s126 hS) rfl rfl (zi_vp (by decide)) ((show g_55 126 (1 : Int32).toNatClampNeg = g_55 126 1 from rfl).trans ((show g_55 126 1 = g_53 126 1 from (by rw [hg_55]; rfl)).trans ((show g_53 126 1 = g_51 126 1 from (by rw [hg_53]; rfl)).trans ((show g_51 126 1 = g_49 126 1 from (by rw [hg_51]; rfl)).trans ((show g_49 126 1 = g_47 126 1 from (by rw [hg_49]; rfl)).trans ((show g_47 126 1 = g_45 126 1 from (by rw [hg_47]; rfl)).trans ((show g_45 126 1 = g_43 126 1 from (by rw [hg_45]; rfl)).trans ((show g_43 126 1 = g_41 126 1 from (by rw [hg_43]; rfl)).trans ((show g_41 126 1 = g_39 126 1 from (by rw [hg_41]; rfl)).trans ((show g_39 126 1 = g_37 126 1 from (by rw [hg_39]; rfl)).trans ((show g_37 126 1 = g_35 126 1 from (by rw [hg_37]; rfl)).trans ((show g_35 126 1 = g_33 126 1 from (by rw [hg_35]; rfl)).trans ((show g_33 126 1 = g_31 126 1 from (by rw [hg_33]; rfl)).trans ((show g_31 126 1 = g_29 126 1 from (by rw [hg_31]; rfl)).trans ((show g_29 126 1 = g_27 126 1 from (by rw [hg_29]; rfl)).trans ((show g_27 126 1 = g_25 126 1 from (by rw [hg_27]; rfl)).trans ((show g_25 126 1 = g_23 126 1 from (by rw [hg_25]; rfl)).trans ((show g_23 126 1 = g_21 126 1 from (by rw [hg_23]; rfl)).trans ((show g_21 126 1 = g_19 126 1 from (by rw [hg_21]; rfl)).trans ((show g_19 126 1 = g_17 126 1 from (by rw [hg_19]; rfl)).trans ((show g_17 126 1 = g_15 126 1 from (by rw [hg_17]; rfl)).trans ((show g_15 126 1 = g_13 126 1 from (by rw [hg_15]; rfl)).trans ((show g_13 126 1 = g_11 126 1 from (by rw [hg_13]; rfl)).trans ((show g_11 126 1 = g_9 126 1 from (by rw [hg_11]; rfl)).trans ((show g_9 126 1 = g_7 126 1 from (by rw [hg_9]; rfl)).trans ((show g_7 126 1 = g_5 126 1 from (by rw [hg_7]; rfl)).trans ((show g_5 126 1 = g_3 126 1 from (by rw [hg_5]; rfl)).trans ((show g_3 126 1 = g_1 126 1 from (by rw [hg_3]; rfl)).trans ((show g_1 126 1 = g 126 1 from (by rw [hg_1]; rfl)).trans (hN0 _ _ _ _ rfl)))))))))))))))))))))))))))))) ?_
  refine zr_iast (r := 132) X hW dX0_copyFrom_54 (zc_s132 hS) rfl rfl (zi_vp (by decide)) (fun H locs hW => ?_)
  obtain ⟨g_57, hg_57⟩ : ∃ z : zm_T, z = zm_w g_55 132 1 (u 7 16) := ⟨_, rfl⟩
  have hW : zw_St Y N0 ad sh g_57 s H locs := by rw [hg_57]; exact hW
  obtain ⟨u_58, hu_58⟩ : ∃ z : zm_T, z = zm_w u_56 7 34 (u 7 16) := ⟨_, rfl⟩
  have hN : zc_N g_57 u_58 := by rw [hg_57, hu_58]; exact zc_Nw hN rfl _
  refine lv_iinc (v := 2) (lv' := [(3, .int 2), (2, .int 5), (0, .ref (ad 104)), (1, .ref (ad 103))]) X.1 X.2.1 dX0_copyFrom_55 hl (k := 0) rfl (by decide) (by decide) rfl (fun ls hl => ?_)
  refine lv_goto (tgt := 34) X.1 X.2.1 dX0_copyFrom_58 (by decide) ?_
  refine lv_iload_n X.1 X.2.1 dX0_copyFrom_34 rfl (lv_at hl 0 rfl) ?_
  refine lv_iconst (v := 3) X.1 X.2.1 dX0_copyFrom_35 (by decide) ?_
  refine zr_icmp_ge (a := 2) (b := 3) (tgt := 61) X dX0_copyFrom_36 (by decide) (by decide) (by decide) (fun c9 => absurd c9 (by decide)) (fun _ => ?_)
  refine lv_aload_n X.1 X.2.1 dX0_copyFrom_39 rfl (lv_at hl 2 rfl) ?_
  refine zr_get (r := 104) (v := .ref (ad 114)) X hW fs_X0_20_0 dX0_copyFrom_40 (zc_s104 hS) rfl rfl rfl ?_
  refine lv_iload_n X.1 X.2.1 dX0_copyFrom_43 rfl (lv_at hl 1 rfl) ?_
  refine zr_aald (r := 114) (v := .ref (ad 132)) X hW dX0_copyFrom_44 (zc_s114 hS) rfl rfl rfl (zi_vp (by decide)) rfl ?_
  refine lv_iload_n X.1 X.2.1 dX0_copyFrom_45 rfl (lv_at hl 0 rfl) ?_
  refine lv_aload_n X.1 X.2.1 dX0_copyFrom_46 rfl (lv_at hl 3 rfl) ?_
  refine zr_get (r := 103) (v := .ref (ad 111)) X hW fs_X0_20_0 dX0_copyFrom_47 (zc_s103 hS) rfl rfl rfl ?_
  refine lv_iload_n X.1 X.2.1 dX0_copyFrom_50 rfl (lv_at hl 1 rfl) ?_
  refine zr_aald (r := 111) (v := .ref (ad 126)) X hW dX0_copyFrom_51 (zc_s111 hS) rfl rfl rfl (zi_vp (by decide)) rfl ?_
  refine lv_iload_n X.1 X.2.1 dX0_copyFrom_52 rfl (lv_at hl 0 rfl) ?_
  refine zr_iald (r := 126) (v := u 7 17) X hW dX0_copyFrom_53 (zc_s126 hS) rfl rfl (zi_vp (by decide)) ((show g_57 126 (2 : Int32).toNatClampNeg = g_57 126 2 from rfl).trans ((show g_57 126 2 = g_55 126 2 from (by rw [hg_57]; rfl)).trans ((show g_55 126 2 = g_53 126 2 from (by rw [hg_55]; rfl)).trans ((show g_53 126 2 = g_51 126 2 from (by rw [hg_53]; rfl)).trans ((show g_51 126 2 = g_49 126 2 from (by rw [hg_51]; rfl)).trans ((show g_49 126 2 = g_47 126 2 from (by rw [hg_49]; rfl)).trans ((show g_47 126 2 = g_45 126 2 from (by rw [hg_47]; rfl)).trans ((show g_45 126 2 = g_43 126 2 from (by rw [hg_45]; rfl)).trans ((show g_43 126 2 = g_41 126 2 from (by rw [hg_43]; rfl)).trans ((show g_41 126 2 = g_39 126 2 from (by rw [hg_41]; rfl)).trans ((show g_39 126 2 = g_37 126 2 from (by rw [hg_39]; rfl)).trans ((show g_37 126 2 = g_35 126 2 from (by rw [hg_37]; rfl)).trans ((show g_35 126 2 = g_33 126 2 from (by rw [hg_35]; rfl)).trans ((show g_33 126 2 = g_31 126 2 from (by rw [hg_33]; rfl)).trans ((show g_31 126 2 = g_29 126 2 from (by rw [hg_31]; rfl)).trans ((show g_29 126 2 = g_27 126 2 from (by rw [hg_29]; rfl)).trans ((show g_27 126 2 = g_25 126 2 from (by rw [hg_27]; rfl)).trans ((show g_25 126 2 = g_23 126 2 from (by rw [hg_25]; rfl)).trans ((show g_23 126 2 = g_21 126 2 from (by rw [hg_23]; rfl)).trans ((show g_21 126 2 = g_19 126 2 from (by rw [hg_21]; rfl)).trans ((show g_19 126 2 = g_17 126 2 from (by rw [hg_19]; rfl)).trans ((show g_17 126 2 = g_15 126 2 from (by rw [hg_17]; rfl)).trans ((show g_15 126 2 = g_13 126 2 from (by rw [hg_15]; rfl)).trans ((show g_13 126 2 = g_11 126 2 from (by rw [hg_13]; rfl)).trans ((show g_11 126 2 = g_9 126 2 from (by rw [hg_11]; rfl)).trans ((show g_9 126 2 = g_7 126 2 from (by rw [hg_9]; rfl)).trans ((show g_7 126 2 = g_5 126 2 from (by rw [hg_7]; rfl)).trans ((show g_5 126 2 = g_3 126 2 from (by rw [hg_5]; rfl)).trans ((show g_3 126 2 = g_1 126 2 from (by rw [hg_3]; rfl)).trans ((show g_1 126 2 = g 126 2 from (by rw [hg_1]; rfl)).trans (hN0 _ _ _ _ rfl))))))))))))))))))))))))))))))) ?_
  refine zr_iast (r := 132) X hW dX0_copyFrom_54 (zc_s132 hS) rfl rfl (zi_vp (by decide)) (fun H locs hW => ?_)
  obtain ⟨g_59, hg_59⟩ : ∃ z : zm_T, z = zm_w g_57 132 2 (u 7 17) := ⟨_, rfl⟩
  have hW : zw_St Y N0 ad sh g_59 s H locs := by rw [hg_59]; exact hW
  obtain ⟨u_60, hu_60⟩ : ∃ z : zm_T, z = zm_w u_58 7 35 (u 7 17) := ⟨_, rfl⟩
  have hN : zc_N g_59 u_60 := by rw [hg_59, hu_60]; exact zc_Nw hN rfl _
  refine lv_iinc (v := 3) (lv' := [(3, .int 3), (2, .int 5), (0, .ref (ad 104)), (1, .ref (ad 103))]) X.1 X.2.1 dX0_copyFrom_55 hl (k := 0) rfl (by decide) (by decide) rfl (fun ls hl => ?_)
  refine lv_goto (tgt := 34) X.1 X.2.1 dX0_copyFrom_58 (by decide) ?_
  refine lv_iload_n X.1 X.2.1 dX0_copyFrom_34 rfl (lv_at hl 0 rfl) ?_
  refine lv_iconst (v := 3) X.1 X.2.1 dX0_copyFrom_35 (by decide) ?_
  refine zr_icmp_ge (a := 3) (b := 3) (tgt := 61) X dX0_copyFrom_36 (by decide) (by decide) (by decide) (fun _ => ?_) (fun c9 => absurd c9 (by decide))
  refine lv_iinc (v := 6) (lv' := [(2, .int 6), (3, .int 3), (0, .ref (ad 104)), (1, .ref (ad 103))]) X.1 X.2.1 dX0_copyFrom_61 hl (k := 1) rfl (by decide) (by decide) rfl (fun ls hl => ?_)
  refine lv_goto (tgt := 2) X.1 X.2.1 dX0_copyFrom_64 (by decide) ?_
  refine lv_iload_n X.1 X.2.1 dX0_copyFrom_2 rfl (lv_at hl 0 rfl) ?_
  refine lv_bipush (v := 6) X.1 X.2.1 dX0_copyFrom_3 (by decide) ?_
  refine zr_icmp_ge (a := 6) (b := 6) (tgt := 67) X dX0_copyFrom_5 (by decide) (by decide) (by decide) (fun _ => ?_) (fun c9 => absurd c9 (by decide))
  have e9 : u_60 = zs_cp u 0 6 := by rw [hu_60, hu_58, hu_56, hu_54, hu_52, hu_50, hu_48, hu_46, hu_44, hu_42, hu_40, hu_38, hu_36, hu_34, hu_32, hu_30, hu_28, hu_26, hu_24, hu_22, hu_20, hu_18, hu_16, hu_14, hu_12, hu_10, hu_8, hu_6, hu_4, hu_2, ← zs_cpk6, ← zs_cpks, ← zs_cpks, ← zs_cpks, ← zs_cpks, ← zs_cpks, ← zs_cpks, zs_cpk0]
  exact zr_vret X hW dX0_copyFrom_67 (Nat.le_refl _) (Nat.le_refl _) ⟨rfl, rfl, rfl, by rw [← e9]; exact hN, fun r hr => by rw [hg_59, hg_57, hg_55, hg_53, hg_51, hg_49, hg_47, hg_45, hg_43, hg_41, hg_39, hg_37, hg_35, hg_33, hg_31, hg_29, hg_27, hg_25, hg_23, hg_21, hg_19, hg_17, hg_15, hg_13, hg_11, hg_9, hg_7, hg_5, hg_3, hg_1, zm_wr (by omega), zm_wr (by omega), zm_wr (by omega), zm_wr (by omega), zm_wr (by omega), zm_wr (by omega), zm_wr (by omega), zm_wr (by omega), zm_wr (by omega), zm_wr (by omega), zm_wr (by omega), zm_wr (by omega), zm_wr (by omega), zm_wr (by omega), zm_wr (by omega), zm_wr (by omega), zm_wr (by omega), zm_wr (by omega), zm_wr (by omega), zm_wr (by omega), zm_wr (by omega), zm_wr (by omega), zm_wr (by omega), zm_wr (by omega), zm_wr (by omega), zm_wr (by omega), zm_wr (by omega), zm_wr (by omega), zm_wr (by omega), zm_wr (by omega)]⟩
