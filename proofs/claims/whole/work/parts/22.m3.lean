theorem zs_mk3 {u : zm_T} {n : Nat} {a b c d e f g o fl x : Int32} (hn : n = zn (u 0 8)) : zm_w (zm_w (zm_w (zs_mk u (zs_v a b c d e f g 0 0 0)) 16 n o) 17 n fl) 18 n x = zs_mk u (zs_v a b c d e f g o fl x) := by
  rw [zs_mkw' (by decide) hn, zs_mkw' (by decide) hn, zs_mkw' (by decide) hn, zs_w16, zs_w17, zs_w18]

set_option maxHeartbeats 4000000 in
set_option maxRecDepth 100000 in
theorem c_X10_login (l : Launch) (Y : zw_Y) (N0 : Nat) (ad : Nat → Nat) (sh : Nat → Option zw_Sh) (u g0 : zm_T) (hM : zm_S sh) (a t : Int32) (hI : zm_I u) : zw_Met l Y N0 yX10_login cX10_login 3 (some .int) 2 48 0 0 ad sh (zm_mix u g0) [.ref (ad 0), .int a, .int t] (zp_S ad sh g0 (sp_login a t u)) := by
  refine zw_meth (by decide) (Nat.le_of_ble_eq_true rfl) ?_
  intro p e s m below meth c ls X hnm hl hW
  have hl : lv_has ls 3 [(0, .ref (ad 0)), (1, .int a), (2, .int t)] := hl
  have hse := zI_se hI
  have hke := zI_ke hI
  have hs1 := zi_sub (u 0 8) 1 (by rw [show (1 : Int32).toInt = 1 from rfl]; omega)
  rw [show (1 : Int32).toInt = 1 from rfl] at hs1
  refine lv_aload_n X.1 X.2.1 dX10_login_0 rfl (lv_at hl 0 rfl) ?_
  refine lv_iload_n X.1 X.2.1 dX10_login_1 rfl (lv_at hl 1 rfl) ?_
  refine zr_callV (As := [.int a]) (rest := []) X hW hl.1 md_X10_user ms_X10_112 dX10_login_2 (zm_s0 hM) rfl rfl rfl rfl (Nat.le_of_ble_eq_true rfl) ⟨Nat.le_of_ble_eq_true rfl, Nat.le_of_ble_eq_true rfl⟩ ⟨Nat.le_of_ble_eq_true rfl, Nat.le_of_ble_eq_true rfl⟩ (c_X10_user l Y N0 ad sh u g0 hM a) (fun v9 ad9 sh9 g9 H locs hp hW => ?_)
  rcases hp with ⟨rfl, rfl, rfl, ⟨h_1, h9⟩ | ⟨h_1, h9⟩⟩
  · subst h9
    have h_1 : zs_us a := h_1
    refine zr_if_eq (a := 1) (tgt := 26) X dX10_login_5 (by decide) (by decide) (fun c9 => absurd c9 (by decide)) (fun _ => ?_)
    refine lv_aload_n X.1 X.2.1 dX10_login_8 rfl (lv_at hl 0 rfl) ?_
    refine zr_get (v := .ref (ad 3)) X hW fs_X10_13_9 dX10_login_9 (zm_s0 hM) rfl rfl rfl ?_
    refine lv_iload_n X.1 X.2.1 dX10_login_12 rfl (lv_at hl 1 rfl) ?_
    refine zr_iald (v := u 3 (zn a)) X hW dX10_login_13 (zm_s3 hM) rfl rfl (zi_vp (by omega)) rfl ?_
    refine zr_if_lt (a := (u 3 (zn a)).toInt) (tgt := 26) X dX10_login_14 (by decide) rfl (fun c_2 => ?_) (fun c_2 => ?_)
    · refine lv_iconst (v := (-1)) X.1 X.2.1 dX10_login_26 (by decide) ?_
      have e9 : sp_login a t u = ((-1), u) := (by unfold sp_login; (repeat (first | refine (if_pos (by omega)).trans ?_ | refine (if_neg (by omega)).trans ?_)); rfl)
      exact zr_iret X hW dX10_login_27 (Nat.le_refl _) (Nat.le_refl _) ⟨rfl, rfl, by rw [e9], by rw [e9]⟩
    · refine lv_iload_n X.1 X.2.1 dX10_login_17 rfl (lv_at hl 2 rfl) ?_
      refine lv_iconst (v := 0) X.1 X.2.1 dX10_login_18 (by decide) ?_
      refine lv_iconst (v := 1) X.1 X.2.1 dX10_login_19 (by decide) ?_
      refine zr_callS (As := [.int t, .int 0, .int 1]) (rest := []) X hW hl.1 md_X10_in ms_X10_87 dX10_login_20 rfl rfl (Nat.le_of_ble_eq_true rfl) ⟨Nat.le_of_ble_eq_true rfl, Nat.le_of_ble_eq_true rfl⟩ ⟨Nat.le_of_ble_eq_true rfl, Nat.le_of_ble_eq_true rfl⟩ (c_X10_in l Y N0 ad sh (zm_mix u g0) t 0 1) (fun v9 ad9 sh9 g9 H locs hp hW => ?_)
      rcases hp with ⟨rfl, rfl, rfl, ⟨h_3, h9⟩ | ⟨h_3, h9⟩⟩
      · subst h9
        have h_3 : zi_in t 0 1 := h_3
        refine zr_if_ne (a := 1) (tgt := 28) X dX10_login_23 (by decide) (by decide) (fun _ => ?_) (fun c9 => absurd c9 (by decide))
        refine lv_aload_n X.1 X.2.1 dX10_login_28 rfl (lv_at hl 0 rfl) ?_
        refine zr_get (v := .int (u 0 8)) X hW fs_X10_102_9 dX10_login_29 (zm_s0 hM) rfl rfl rfl ?_
        refine lv_sipush (v := 150) X.1 X.2.1 dX10_login_32 (by decide) ?_
        refine zr_icmp_lt (a := (u 0 8).toInt) (b := 150) (tgt := 41) X dX10_login_35 (by decide) rfl (by decide) (fun c_4 => ?_) (fun c_4 => ?_)
        · refine lv_aload_n X.1 X.2.1 dX10_login_41 rfl (lv_at hl 0 rfl) ?_
          refine lv_iload_n X.1 X.2.1 dX10_login_42 rfl (lv_at hl 1 rfl) ?_
          refine lv_iload_n X.1 X.2.1 dX10_login_43 rfl (lv_at hl 2 rfl) ?_
          refine lv_aload_n X.1 X.2.1 dX10_login_44 rfl (lv_at hl 0 rfl) ?_
          refine zr_get (v := .ref (ad 3)) X hW fs_X10_13_9 dX10_login_45 (zm_s0 hM) rfl rfl rfl ?_
          refine lv_iload_n X.1 X.2.1 dX10_login_48 rfl (lv_at hl 1 rfl) ?_
          refine zr_iald (v := u 3 (zn a)) X hW dX10_login_49 (zm_s3 hM) rfl rfl (zi_vp (by omega)) rfl ?_
          refine zr_callV (As := [.int a, .int t, .int (u 3 (zn a))]) (rest := []) X hW hl.1 md_X10_request ms_X10_115 dX10_login_50 (zm_s0 hM) rfl rfl rfl rfl (Nat.le_of_ble_eq_true rfl) ⟨Nat.le_of_ble_eq_true rfl, Nat.le_of_ble_eq_true rfl⟩ ⟨Nat.le_of_ble_eq_true rfl, Nat.le_of_ble_eq_true rfl⟩ (c_X10_request l Y N0 ad sh u g0 hM a t (u 3 (zn a)) (by omega)) (fun v9 ad9 sh9 g9 H locs hp hW => ?_)
          obtain ⟨rfl, rfl, rfl, rfl⟩ := hp
          obtain ⟨u_6, hu_6⟩ : ∃ z : zm_T, z = zs_rq u (zn a) t (u 3 (zn a)) := ⟨_, rfl⟩
          rw [← hu_6] at hW
          refine lv_aload_n X.1 X.2.1 dX10_login_53 rfl (lv_at hl 0 rfl) ?_
          refine lv_aload_n X.1 X.2.1 dX10_login_54 rfl (lv_at hl 0 rfl) ?_
          refine zr_get (v := .ref (ad 3)) X hW fs_X10_13_9 dX10_login_55 (zm_s0 hM) rfl rfl rfl ?_
          refine lv_iload_n X.1 X.2.1 dX10_login_58 rfl (lv_at hl 1 rfl) ?_
          refine zr_iald (v := u 3 (zn a)) X hW dX10_login_59 (zm_s3 hM) rfl rfl (zi_vp (by omega)) ((show zm_mix u_6 g0 3 (a : Int32).toNatClampNeg = u_6 3 (zn a) from rfl).trans (show u_6 3 (zn a) = u 3 (zn a) from (by rw [hu_6]; rfl))) ?_
          refine lv_iload_n X.1 X.2.1 dX10_login_60 rfl (lv_at hl 1 rfl) ?_
          refine lv_aload_n X.1 X.2.1 dX10_login_61 rfl (lv_at hl 0 rfl) ?_
          refine zr_get (v := .ref (ad 1)) X hW fs_X10_7_9 dX10_login_62 (zm_s0 hM) rfl rfl rfl ?_
          refine lv_iload_n X.1 X.2.1 dX10_login_65 rfl (lv_at hl 1 rfl) ?_
          refine zr_iald (v := u 1 (zn a)) X hW dX10_login_66 (zm_s1 hM) rfl rfl (zi_vp (by omega)) ((show zm_mix u_6 g0 1 (a : Int32).toNatClampNeg = u_6 1 (zn a) from rfl).trans (show u_6 1 (zn a) = u 1 (zn a) from (by rw [hu_6]; rfl))) ?_
          refine zr_callV (As := [.int (u 3 (zn a)), .int a, .int (u 1 (zn a))]) (rest := []) X hW hl.1 md_X10_makeProof ms_X10_119 dX10_login_67 (zm_s0 hM) rfl rfl rfl rfl (Nat.le_of_ble_eq_true rfl) ⟨Nat.le_of_ble_eq_true rfl, Nat.le_of_ble_eq_true rfl⟩ ⟨Nat.le_of_ble_eq_true rfl, Nat.le_of_ble_eq_true rfl⟩ (c_X10_makeProof l Y N0 ad sh u_6 g0 hM (u 3 (zn a)) a (u 1 (zn a)) (by rw [(show u_6 0 8 = u 0 8 from (by rw [hu_6]; rfl))]; omega)) (fun v9 ad9 sh9 g9 H locs hp hW => ?_)
          obtain ⟨rfl, rfl, _, rfl, rfl, rfl⟩ := hp
          obtain ⟨u_9, hu_9⟩ : ∃ z : zm_T, z = zs_mk u_6 (zs_v 1 (u 3 (zn a)) a (-1) (u 1 (zn a)) 0 0 0 0 0) := ⟨_, rfl⟩
          rw [← hu_9] at hW
          rw [(show u_6 0 8 = u 0 8 from (by rw [hu_6]; rfl))]
          have e9 : sp_login a t u = (u 0 8, u_9) := (by subst hu_9 hu_6; unfold sp_login; (repeat (first | refine (if_pos (by omega)).trans ?_ | refine (if_neg (by omega)).trans ?_)); rfl)
          exact zr_iret X hW dX10_login_70 (Nat.le_refl _) (Nat.le_refl _) ⟨rfl, rfl, by rw [e9], by rw [e9]⟩
        · refine lv_bipush (v := (-7)) X.1 X.2.1 dX10_login_38 (by decide) ?_
          have e9 : sp_login a t u = ((-7), u) := (by unfold sp_login; (repeat (first | refine (if_pos (by omega)).trans ?_ | refine (if_neg (by omega)).trans ?_)); rfl)
          exact zr_iret X hW dX10_login_40 (Nat.le_refl _) (Nat.le_refl _) ⟨rfl, rfl, by rw [e9], by rw [e9]⟩
      · subst h9
        have h_3 : ¬ (zi_in t 0 1) := h_3
        refine zr_if_ne (a := 0) (tgt := 28) X dX10_login_23 (by decide) (by decide) (fun c9 => absurd c9 (by decide)) (fun _ => ?_)
        refine lv_iconst (v := (-1)) X.1 X.2.1 dX10_login_26 (by decide) ?_
        have e9 : sp_login a t u = ((-1), u) := (by unfold sp_login; (repeat (first | refine (if_pos (by omega)).trans ?_ | refine (if_neg (by omega)).trans ?_)); rfl)
        exact zr_iret X hW dX10_login_27 (Nat.le_refl _) (Nat.le_refl _) ⟨rfl, rfl, by rw [e9], by rw [e9]⟩
  · subst h9
    have h_1 : ¬ (zs_us a) := h_1
    refine zr_if_eq (a := 0) (tgt := 26) X dX10_login_5 (by decide) (by decide) (fun _ => ?_) (fun c9 => absurd c9 (by decide))
    refine lv_iconst (v := (-1)) X.1 X.2.1 dX10_login_26 (by decide) ?_
    have e9 : sp_login a t u = ((-1), u) := (by unfold sp_login; (repeat (first | refine (if_pos (by omega)).trans ?_ | refine (if_neg (by omega)).trans ?_)); rfl)
    exact zr_iret X hW dX10_login_27 (Nat.le_refl _) (Nat.le_refl _) ⟨rfl, rfl, by rw [e9], by rw [e9]⟩

set_option maxHeartbeats 4000000 in
set_option maxRecDepth 100000 in
theorem c_X10_ask (l : Launch) (Y : zw_Y) (N0 : Nat) (ad : Nat → Nat) (sh : Nat → Option zw_Sh) (u g0 : zm_T) (hM : zm_S sh) (a t : Int32) (hI : zm_I u) : zw_Met l Y N0 yX10_ask cX10_ask 3 (some .int) 2 49 0 0 ad sh (zm_mix u g0) [.ref (ad 0), .int a, .int t] (zp_S ad sh g0 (sp_ask a t u)) := by
  refine zw_meth (by decide) (Nat.le_of_ble_eq_true rfl) ?_
  intro p e s m below meth c ls X hnm hl hW
  have hl : lv_has ls 3 [(0, .ref (ad 0)), (1, .int a), (2, .int t)] := hl
  have hse := zI_se hI
  have hke := zI_ke hI
  have hs1 := zi_sub (u 0 8) 1 (by rw [show (1 : Int32).toInt = 1 from rfl]; omega)
  rw [show (1 : Int32).toInt = 1 from rfl] at hs1
  refine lv_aload_n X.1 X.2.1 dX10_ask_0 rfl (lv_at hl 0 rfl) ?_
  refine lv_iload_n X.1 X.2.1 dX10_ask_1 rfl (lv_at hl 1 rfl) ?_
  refine zr_callV (As := [.int a]) (rest := []) X hW hl.1 md_X10_user ms_X10_112 dX10_ask_2 (zm_s0 hM) rfl rfl rfl rfl (Nat.le_of_ble_eq_true rfl) ⟨Nat.le_of_ble_eq_true rfl, Nat.le_of_ble_eq_true rfl⟩ ⟨Nat.le_of_ble_eq_true rfl, Nat.le_of_ble_eq_true rfl⟩ (c_X10_user l Y N0 ad sh u g0 hM a) (fun v9 ad9 sh9 g9 H locs hp hW => ?_)
  rcases hp with ⟨rfl, rfl, rfl, ⟨h_1, h9⟩ | ⟨h_1, h9⟩⟩
  · subst h9
    have h_1 : zs_us a := h_1
    refine zr_if_eq (a := 1) (tgt := 28) X dX10_ask_5 (by decide) (by decide) (fun c9 => absurd c9 (by decide)) (fun _ => ?_)
    refine lv_aload_n X.1 X.2.1 dX10_ask_8 rfl (lv_at hl 0 rfl) ?_
    refine zr_get (v := .ref (ad 23)) X hW fs_X10_68_9 dX10_ask_9 (zm_s0 hM) rfl rfl rfl ?_
    refine lv_iconst (v := 2) X.1 X.2.1 dX10_ask_12 (by decide) ?_
    refine lv_iload_n X.1 X.2.1 dX10_ask_13 rfl (lv_at hl 1 rfl) ?_
    refine lv_imul X.1 X.2.1 dX10_ask_14 ?_
    have hx_2 := zi_ix2 a (by omega)
    obtain ⟨hx_2, hx_2n⟩ := hx_2
    refine zr_iald (v := u 23 (2 * zn a)) X hW dX10_ask_15 (zm_s23 hM) rfl rfl (zi_vp (by omega)) (by rw [hx_2n]; rfl) ?_
    refine zr_if_lt (a := (u 23 (2 * zn a)).toInt) (tgt := 28) X dX10_ask_16 (by decide) rfl (fun c_3 => ?_) (fun c_3 => ?_)
    · refine lv_iconst (v := (-1)) X.1 X.2.1 dX10_ask_28 (by decide) ?_
      have e9 : sp_ask a t u = ((-1), u) := (by unfold sp_ask; (repeat (first | refine (if_pos (by omega)).trans ?_ | refine (if_neg (by omega)).trans ?_)); rfl)
      exact zr_iret X hW dX10_ask_29 (Nat.le_refl _) (Nat.le_refl _) ⟨rfl, rfl, by rw [e9], by rw [e9]⟩
    · refine lv_iload_n X.1 X.2.1 dX10_ask_19 rfl (lv_at hl 2 rfl) ?_
      refine lv_iconst (v := 0) X.1 X.2.1 dX10_ask_20 (by decide) ?_
      refine lv_iconst (v := 1) X.1 X.2.1 dX10_ask_21 (by decide) ?_
      refine zr_callS (As := [.int t, .int 0, .int 1]) (rest := []) X hW hl.1 md_X10_in ms_X10_87 dX10_ask_22 rfl rfl (Nat.le_of_ble_eq_true rfl) ⟨Nat.le_of_ble_eq_true rfl, Nat.le_of_ble_eq_true rfl⟩ ⟨Nat.le_of_ble_eq_true rfl, Nat.le_of_ble_eq_true rfl⟩ (c_X10_in l Y N0 ad sh (zm_mix u g0) t 0 1) (fun v9 ad9 sh9 g9 H locs hp hW => ?_)
      rcases hp with ⟨rfl, rfl, rfl, ⟨h_4, h9⟩ | ⟨h_4, h9⟩⟩
      · subst h9
        have h_4 : zi_in t 0 1 := h_4
        refine zr_if_ne (a := 1) (tgt := 30) X dX10_ask_25 (by decide) (by decide) (fun _ => ?_) (fun c9 => absurd c9 (by decide))
        refine lv_aload_n X.1 X.2.1 dX10_ask_30 rfl (lv_at hl 0 rfl) ?_
        refine zr_get (v := .int (u 0 8)) X hW fs_X10_102_9 dX10_ask_31 (zm_s0 hM) rfl rfl rfl ?_
        refine lv_sipush (v := 150) X.1 X.2.1 dX10_ask_34 (by decide) ?_
        refine zr_icmp_lt (a := (u 0 8).toInt) (b := 150) (tgt := 43) X dX10_ask_37 (by decide) rfl (by decide) (fun c_5 => ?_) (fun c_5 => ?_)
        · refine lv_aload_n X.1 X.2.1 dX10_ask_43 rfl (lv_at hl 0 rfl) ?_
          refine lv_iload_n X.1 X.2.1 dX10_ask_44 rfl (lv_at hl 1 rfl) ?_
          refine lv_iload_n X.1 X.2.1 dX10_ask_45 rfl (lv_at hl 2 rfl) ?_
          refine lv_aload_n X.1 X.2.1 dX10_ask_46 rfl (lv_at hl 0 rfl) ?_
          refine zr_get (v := .ref (ad 24)) X hW fs_X10_71_9 dX10_ask_47 (zm_s0 hM) rfl rfl rfl ?_
          refine lv_iconst (v := 2) X.1 X.2.1 dX10_ask_50 (by decide) ?_
          refine lv_iload_n X.1 X.2.1 dX10_ask_51 rfl (lv_at hl 1 rfl) ?_
          refine lv_imul X.1 X.2.1 dX10_ask_52 ?_
          have hx_6 := zi_ix2 a (by omega)
          obtain ⟨hx_6, hx_6n⟩ := hx_6
          refine zr_iald (v := u 24 (2 * zn a)) X hW dX10_ask_53 (zm_s24 hM) rfl rfl (zi_vp (by omega)) (by rw [hx_6n]; rfl) ?_
          refine zr_callV (As := [.int a, .int t, .int (u 24 (2 * zn a))]) (rest := []) X hW hl.1 md_X10_request ms_X10_115 dX10_ask_54 (zm_s0 hM) rfl rfl rfl rfl (Nat.le_of_ble_eq_true rfl) ⟨Nat.le_of_ble_eq_true rfl, Nat.le_of_ble_eq_true rfl⟩ ⟨Nat.le_of_ble_eq_true rfl, Nat.le_of_ble_eq_true rfl⟩ (c_X10_request l Y N0 ad sh u g0 hM a t (u 24 (2 * zn a)) (by omega)) (fun v9 ad9 sh9 g9 H locs hp hW => ?_)
          obtain ⟨rfl, rfl, rfl, rfl⟩ := hp
          obtain ⟨u_8, hu_8⟩ : ∃ z : zm_T, z = zs_rq u (zn a) t (u 24 (2 * zn a)) := ⟨_, rfl⟩
          rw [← hu_8] at hW
          refine lv_aload_n X.1 X.2.1 dX10_ask_57 rfl (lv_at hl 0 rfl) ?_
          refine zr_get (v := .ref (ad 25)) X hW fs_X10_74_9 dX10_ask_58 (zm_s0 hM) rfl rfl rfl ?_
          refine lv_iload_n X.1 X.2.1 dX10_ask_61 rfl (lv_at hl 1 rfl) ?_
          refine lv_dup2_11 X.1 X.2.1 dX10_ask_62 rfl rfl ?_
          refine zr_iald (v := u 25 (zn a)) X hW dX10_ask_63 (zm_s25 hM) rfl rfl (zi_vp (by omega)) ((show zm_mix u_8 g0 25 (a : Int32).toNatClampNeg = u_8 25 (zn a) from rfl).trans (show u_8 25 (zn a) = u 25 (zn a) from (by rw [hu_8]; rfl))) ?_
          refine lv_iconst (v := 1) X.1 X.2.1 dX10_ask_64 (by decide) ?_
          refine lv_iadd X.1 X.2.1 dX10_ask_65 ?_
          refine zr_iast X hW dX10_ask_66 (zm_s25 hM) rfl rfl (zi_vp (by omega)) (fun H locs hW => ?_)
          have hW : zw_St Y N0 ad sh (zm_mix (zm_w u_8 25 (zn a) ((u 25 (zn a)) + 1)) g0) s H locs := zm_st (by decide) hW
          obtain ⟨u_10, hu_10⟩ : ∃ z : zm_T, z = zm_w u_8 25 (zn a) ((u 25 (zn a)) + 1) := ⟨_, rfl⟩
          rw [← hu_10] at hW
          refine lv_aload_n X.1 X.2.1 dX10_ask_67 rfl (lv_at hl 0 rfl) ?_
          refine lv_aload_n X.1 X.2.1 dX10_ask_68 rfl (lv_at hl 0 rfl) ?_
          refine zr_get (v := .ref (ad 24)) X hW fs_X10_71_9 dX10_ask_69 (zm_s0 hM) rfl rfl rfl ?_
          refine lv_iconst (v := 2) X.1 X.2.1 dX10_ask_72 (by decide) ?_
          refine lv_iload_n X.1 X.2.1 dX10_ask_73 rfl (lv_at hl 1 rfl) ?_
          refine lv_imul X.1 X.2.1 dX10_ask_74 ?_
          have hx_11 := zi_ix2 a (by omega)
          obtain ⟨hx_11, hx_11n⟩ := hx_11
          refine zr_iald (v := u 24 (2 * zn a)) X hW dX10_ask_75 (zm_s24 hM) rfl rfl (zi_vp (by omega)) ((show zm_mix u_10 g0 24 (2 * a : Int32).toNatClampNeg = u_10 24 (2 * zn a) from (by rw [hx_11n]; rfl)).trans ((show u_10 24 (2 * zn a) = u_8 24 (2 * zn a) from (by rw [hu_10]; rfl)).trans (show u_8 24 (2 * zn a) = u 24 (2 * zn a) from (by rw [hu_8]; rfl)))) ?_
          refine lv_iload_n X.1 X.2.1 dX10_ask_76 rfl (lv_at hl 1 rfl) ?_
          refine lv_aload_n X.1 X.2.1 dX10_ask_77 rfl (lv_at hl 0 rfl) ?_
          refine zr_get (v := .ref (ad 1)) X hW fs_X10_7_9 dX10_ask_78 (zm_s0 hM) rfl rfl rfl ?_
          refine lv_iload_n X.1 X.2.1 dX10_ask_81 rfl (lv_at hl 1 rfl) ?_
          refine zr_iald (v := u 1 (zn a)) X hW dX10_ask_82 (zm_s1 hM) rfl rfl (zi_vp (by omega)) ((show zm_mix u_10 g0 1 (a : Int32).toNatClampNeg = u_10 1 (zn a) from rfl).trans ((show u_10 1 (zn a) = u_8 1 (zn a) from (by rw [hu_10]; rfl)).trans (show u_8 1 (zn a) = u 1 (zn a) from (by rw [hu_8]; rfl)))) ?_
          refine lv_aload_n X.1 X.2.1 dX10_ask_83 rfl (lv_at hl 0 rfl) ?_
          refine zr_get (v := .ref (ad 25)) X hW fs_X10_74_9 dX10_ask_84 (zm_s0 hM) rfl rfl rfl ?_
          refine lv_iload_n X.1 X.2.1 dX10_ask_87 rfl (lv_at hl 1 rfl) ?_
          refine zr_iald (v := (u 25 (zn a)) + 1) X hW dX10_ask_88 (zm_s25 hM) rfl rfl (zi_vp (by omega)) ((show zm_mix u_10 g0 25 (a : Int32).toNatClampNeg = u_10 25 (zn a) from rfl).trans (show u_10 25 (zn a) = (u 25 (zn a)) + 1 from (by rw [hu_10]; exact zm_ws _ _ _ _))) ?_
          refine zr_callV (As := [.int (u 24 (2 * zn a)), .int a, .int (u 1 (zn a)), .int ((u 25 (zn a)) + 1)]) (rest := []) X hW hl.1 md_X10_makeClaim ms_X10_123 dX10_ask_89 (zm_s0 hM) rfl rfl rfl rfl (Nat.le_of_ble_eq_true rfl) ⟨Nat.le_of_ble_eq_true rfl, Nat.le_of_ble_eq_true rfl⟩ ⟨Nat.le_of_ble_eq_true rfl, Nat.le_of_ble_eq_true rfl⟩ (c_X10_makeClaim l Y N0 ad sh u_10 g0 hM (u 24 (2 * zn a)) a (u 1 (zn a)) ((u 25 (zn a)) + 1) (by rw [((show u_10 0 8 = u_8 0 8 from (by rw [hu_10]; rfl)).trans (show u_8 0 8 = u 0 8 from (by rw [hu_8]; rfl)))]; omega)) (fun v9 ad9 sh9 g9 H locs hp hW => ?_)
          obtain ⟨rfl, rfl, _, rfl, rfl, rfl⟩ := hp
          obtain ⟨u_13, hu_13⟩ : ∃ z : zm_T, z = zs_mk u_10 (zs_v 4 (u 24 (2 * zn a)) a (-1) (u 1 (zn a)) ((u 25 (zn a)) + 1) 0 0 0 0) := ⟨_, rfl⟩
          rw [← hu_13] at hW
          rw [((show u_10 0 8 = u_8 0 8 from (by rw [hu_10]; rfl)).trans (show u_8 0 8 = u 0 8 from (by rw [hu_8]; rfl)))]
          have e9 : sp_ask a t u = (u 0 8, u_13) := (by subst hu_13 hu_10 hu_8; unfold sp_ask; (repeat (first | refine (if_pos (by omega)).trans ?_ | refine (if_neg (by omega)).trans ?_)); rfl)
          exact zr_iret X hW dX10_ask_92 (Nat.le_refl _) (Nat.le_refl _) ⟨rfl, rfl, by rw [e9], by rw [e9]⟩
        · refine lv_bipush (v := (-7)) X.1 X.2.1 dX10_ask_40 (by decide) ?_
          have e9 : sp_ask a t u = ((-7), u) := (by unfold sp_ask; (repeat (first | refine (if_pos (by omega)).trans ?_ | refine (if_neg (by omega)).trans ?_)); rfl)
          exact zr_iret X hW dX10_ask_42 (Nat.le_refl _) (Nat.le_refl _) ⟨rfl, rfl, by rw [e9], by rw [e9]⟩
      · subst h9
        have h_4 : ¬ (zi_in t 0 1) := h_4
        refine zr_if_ne (a := 0) (tgt := 30) X dX10_ask_25 (by decide) (by decide) (fun c9 => absurd c9 (by decide)) (fun _ => ?_)
        refine lv_iconst (v := (-1)) X.1 X.2.1 dX10_ask_28 (by decide) ?_
        have e9 : sp_ask a t u = ((-1), u) := (by unfold sp_ask; (repeat (first | refine (if_pos (by omega)).trans ?_ | refine (if_neg (by omega)).trans ?_)); rfl)
        exact zr_iret X hW dX10_ask_29 (Nat.le_refl _) (Nat.le_refl _) ⟨rfl, rfl, by rw [e9], by rw [e9]⟩
  · subst h9
    have h_1 : ¬ (zs_us a) := h_1
    refine zr_if_eq (a := 0) (tgt := 28) X dX10_ask_5 (by decide) (by decide) (fun _ => ?_) (fun c9 => absurd c9 (by decide))
    refine lv_iconst (v := (-1)) X.1 X.2.1 dX10_ask_28 (by decide) ?_
    have e9 : sp_ask a t u = ((-1), u) := (by unfold sp_ask; (repeat (first | refine (if_pos (by omega)).trans ?_ | refine (if_neg (by omega)).trans ?_)); rfl)
    exact zr_iret X hW dX10_ask_29 (Nat.le_refl _) (Nat.le_refl _) ⟨rfl, rfl, by rw [e9], by rw [e9]⟩

set_option maxHeartbeats 4000000 in
set_option maxRecDepth 100000 in
theorem c_X10_receive (l : Launch) (Y : zw_Y) (N0 : Nat) (ad : Nat → Nat) (sh : Nat → Option zw_Sh) (u g0 : zm_T) (hM : zm_S sh) (a q t : Int32) (hI : zm_I u) : zw_Met l Y N0 yX10_receive cX10_receive 4 (some .boolean) 2 45 0 0 ad sh (zm_mix u g0) [.ref (ad 0), .int a, .int q, .int t] (zp_S ad sh g0 (sp_receive a q t u)) := by
  refine zw_meth (by decide) (Nat.le_of_ble_eq_true rfl) ?_
  intro p e s m below meth c ls X hnm hl hW
  have hl : lv_has ls 4 [(0, .ref (ad 0)), (1, .int a), (2, .int q), (3, .int t)] := hl
  have hse := zI_se hI
  have hke := zI_ke hI
  have hs1 := zi_sub (u 0 8) 1 (by rw [show (1 : Int32).toInt = 1 from rfl]; omega)
  rw [show (1 : Int32).toInt = 1 from rfl] at hs1
  refine lv_aload_n X.1 X.2.1 dX10_receive_0 rfl (lv_at hl 0 rfl) ?_
  refine lv_iload_n X.1 X.2.1 dX10_receive_1 rfl (lv_at hl 1 rfl) ?_
  refine zr_callV (As := [.int a]) (rest := []) X hW hl.1 md_X10_user ms_X10_112 dX10_receive_2 (zm_s0 hM) rfl rfl rfl rfl (Nat.le_of_ble_eq_true rfl) ⟨Nat.le_of_ble_eq_true rfl, Nat.le_of_ble_eq_true rfl⟩ ⟨Nat.le_of_ble_eq_true rfl, Nat.le_of_ble_eq_true rfl⟩ (c_X10_user l Y N0 ad sh u g0 hM a) (fun v9 ad9 sh9 g9 H locs hp hW => ?_)
  rcases hp with ⟨rfl, rfl, rfl, ⟨h_1, h9⟩ | ⟨h_1, h9⟩⟩
  · subst h9
    have h_1 : zs_us a := h_1
    refine zr_if_eq (a := 1) (tgt := 31) X dX10_receive_5 (by decide) (by decide) (fun c9 => absurd c9 (by decide)) (fun _ => ?_)
    refine lv_aload_n X.1 X.2.1 dX10_receive_8 rfl (lv_at hl 0 rfl) ?_
    refine zr_get (v := .ref (ad 20)) X hW fs_X10_59_9 dX10_receive_9 (zm_s0 hM) rfl rfl rfl ?_
    refine lv_iload_n X.1 X.2.1 dX10_receive_12 rfl (lv_at hl 1 rfl) ?_
    refine zr_iald (v := u 20 (zn a)) X hW dX10_receive_13 (zm_s20 hM) rfl rfl (zi_vp (by omega)) rfl ?_
    refine zr_if_eq (a := (u 20 (zn a)).toInt) (tgt := 31) X dX10_receive_14 (by decide) rfl (fun c_2 => ?_) (fun c_2 => ?_)
    · refine lv_iconst (v := 0) X.1 X.2.1 dX10_receive_31 (by decide) ?_
      have e9 : sp_receive a q t u = (0, u) := (by unfold sp_receive; (repeat (first | refine (if_pos (by omega)).trans ?_ | refine (if_neg (by omega)).trans ?_)); rfl)
      exact zr_zret X hW dX10_receive_32 (Nat.le_refl _) (Nat.le_refl _) rfl ⟨rfl, rfl, by rw [e9], by rw [e9]⟩
    · refine lv_iload_n X.1 X.2.1 dX10_receive_17 rfl (lv_at hl 3 rfl) ?_
      refine lv_iconst (v := 0) X.1 X.2.1 dX10_receive_18 (by decide) ?_
      refine lv_aload_n X.1 X.2.1 dX10_receive_19 rfl (lv_at hl 0 rfl) ?_
      refine zr_get (v := .int (u 0 8)) X hW fs_X10_102_9 dX10_receive_20 (zm_s0 hM) rfl rfl rfl ?_
      refine lv_iconst (v := 1) X.1 X.2.1 dX10_receive_23 (by decide) ?_
      refine lv_isub X.1 X.2.1 dX10_receive_24 ?_
      refine zr_callS (As := [.int t, .int 0, .int ((u 0 8) - 1)]) (rest := []) X hW hl.1 md_X10_in ms_X10_87 dX10_receive_25 rfl rfl (Nat.le_of_ble_eq_true rfl) ⟨Nat.le_of_ble_eq_true rfl, Nat.le_of_ble_eq_true rfl⟩ ⟨Nat.le_of_ble_eq_true rfl, Nat.le_of_ble_eq_true rfl⟩ (c_X10_in l Y N0 ad sh (zm_mix u g0) t 0 ((u 0 8) - 1)) (fun v9 ad9 sh9 g9 H locs hp hW => ?_)
      rcases hp with ⟨rfl, rfl, rfl, ⟨h_3, h9⟩ | ⟨h_3, h9⟩⟩
      · subst h9
        have h_3 : zi_in t 0 ((u 0 8) - 1).toInt := h_3
        refine zr_if_ne (a := 1) (tgt := 33) X dX10_receive_28 (by decide) (by decide) (fun _ => ?_) (fun c9 => absurd c9 (by decide))
        refine lv_aload_n X.1 X.2.1 dX10_receive_33 rfl (lv_at hl 0 rfl) ?_
        refine lv_aload_n X.1 X.2.1 dX10_receive_34 rfl (lv_at hl 0 rfl) ?_
        refine zr_get (v := .ref (ad 22)) X hW fs_X10_65_9 dX10_receive_35 (zm_s0 hM) rfl rfl rfl ?_
        refine lv_iload_n X.1 X.2.1 dX10_receive_38 rfl (lv_at hl 1 rfl) ?_
        refine zr_iald (v := u 22 (zn a)) X hW dX10_receive_39 (zm_s22 hM) rfl rfl (zi_vp (by omega)) rfl ?_
        refine lv_iload_n X.1 X.2.1 dX10_receive_40 rfl (lv_at hl 2 rfl) ?_
        refine lv_iconst (v := 3) X.1 X.2.1 dX10_receive_41 (by decide) ?_
        refine zr_callV (As := [.int (u 22 (zn a)), .int q, .int 3]) (rest := []) X hW hl.1 md_X10_opens ms_X10_126 dX10_receive_42 (zm_s0 hM) rfl rfl rfl rfl (Nat.le_of_ble_eq_true rfl) ⟨Nat.le_of_ble_eq_true rfl, Nat.le_of_ble_eq_true rfl⟩ ⟨Nat.le_of_ble_eq_true rfl, Nat.le_of_ble_eq_true rfl⟩ (c_X10_opens l Y N0 ad sh u g0 hM (u 22 (zn a)) q 3 hI) (fun v9 ad9 sh9 g9 H locs hp hW => ?_)
        rcases hp with ⟨rfl, rfl, rfl, ⟨h_4, h9⟩ | ⟨h_4, h9⟩⟩
        · subst h9
          have h_4 : zs_op u (u 22 (zn a)) q 3 := h_4
          refine zr_if_eq (a := 1) (tgt := 78) X dX10_receive_45 (by decide) (by decide) (fun c9 => absurd c9 (by decide)) (fun _ => ?_)
          refine lv_aload_n X.1 X.2.1 dX10_receive_48 rfl (lv_at hl 0 rfl) ?_
          refine zr_get (v := .ref (ad 13)) X hW fs_X10_41_9 dX10_receive_49 (zm_s0 hM) rfl rfl rfl ?_
          refine lv_iload_n X.1 X.2.1 dX10_receive_52 rfl (lv_at hl 2 rfl) ?_
          refine zr_iald (v := u 13 (zn q)) X hW dX10_receive_53 (zm_s13 hM) rfl rfl (zi_vp (by omega)) rfl ?_
          refine lv_aload_n X.1 X.2.1 dX10_receive_54 rfl (lv_at hl 0 rfl) ?_
          refine zr_get (v := .ref (ad 20)) X hW fs_X10_59_9 dX10_receive_55 (zm_s0 hM) rfl rfl rfl ?_
          refine lv_iload_n X.1 X.2.1 dX10_receive_58 rfl (lv_at hl 1 rfl) ?_
          refine zr_iald (v := u 20 (zn a)) X hW dX10_receive_59 (zm_s20 hM) rfl rfl (zi_vp (by omega)) rfl ?_
          refine zr_icmp_ne (a := (u 13 (zn q)).toInt) (b := (u 20 (zn a)).toInt) (tgt := 78) X dX10_receive_60 (by decide) rfl rfl (fun c_5 => ?_) (fun c_5 => ?_)
          · refine lv_iconst (v := 0) X.1 X.2.1 dX10_receive_78 (by decide) ?_
            have e9 : sp_receive a q t u = (0, u) := (by unfold sp_receive; (repeat (first | refine (if_pos (by omega)).trans ?_ | refine (if_neg (by omega)).trans ?_)); rfl)
            exact zr_zret X hW dX10_receive_79 (Nat.le_refl _) (Nat.le_refl _) rfl ⟨rfl, rfl, by rw [e9], by rw [e9]⟩
          · refine lv_aload_n X.1 X.2.1 dX10_receive_63 rfl (lv_at hl 0 rfl) ?_
            refine zr_get (v := .ref (ad 14)) X hW fs_X10_44_9 dX10_receive_64 (zm_s0 hM) rfl rfl rfl ?_
            refine lv_iload_n X.1 X.2.1 dX10_receive_67 rfl (lv_at hl 2 rfl) ?_
            refine zr_iald (v := u 14 (zn q)) X hW dX10_receive_68 (zm_s14 hM) rfl rfl (zi_vp (by omega)) rfl ?_
            refine lv_aload_n X.1 X.2.1 dX10_receive_69 rfl (lv_at hl 0 rfl) ?_
            refine zr_get (v := .ref (ad 21)) X hW fs_X10_62_9 dX10_receive_70 (zm_s0 hM) rfl rfl rfl ?_
            refine lv_iload_n X.1 X.2.1 dX10_receive_73 rfl (lv_at hl 1 rfl) ?_
            refine zr_iald (v := u 21 (zn a)) X hW dX10_receive_74 (zm_s21 hM) rfl rfl (zi_vp (by omega)) rfl ?_
            refine zr_icmp_eq (a := (u 14 (zn q)).toInt) (b := (u 21 (zn a)).toInt) (tgt := 80) X dX10_receive_75 (by decide) rfl rfl (fun c_6 => ?_) (fun c_6 => ?_)
            · have htg := zI_tg hI (zn a) (by rw [zi_n]; omega)
              refine lv_aload_n X.1 X.2.1 dX10_receive_80 rfl (lv_at hl 0 rfl) ?_
              refine zr_get (v := .ref (ad 23)) X hW fs_X10_68_9 dX10_receive_81 (zm_s0 hM) rfl rfl rfl ?_
              refine lv_iconst (v := 2) X.1 X.2.1 dX10_receive_84 (by decide) ?_
              refine lv_iload_n X.1 X.2.1 dX10_receive_85 rfl (lv_at hl 1 rfl) ?_
              refine lv_imul X.1 X.2.1 dX10_receive_86 ?_
              refine lv_aload_n X.1 X.2.1 dX10_receive_87 rfl (lv_at hl 0 rfl) ?_
              refine zr_get (v := .ref (ad 21)) X hW fs_X10_62_9 dX10_receive_88 (zm_s0 hM) rfl rfl rfl ?_
              refine lv_iload_n X.1 X.2.1 dX10_receive_91 rfl (lv_at hl 1 rfl) ?_
              refine zr_iald (v := u 21 (zn a)) X hW dX10_receive_92 (zm_s21 hM) rfl rfl (zi_vp (by omega)) rfl ?_
              refine lv_iadd X.1 X.2.1 dX10_receive_93 ?_
              refine lv_iload_n X.1 X.2.1 dX10_receive_94 rfl (lv_at hl 3 rfl) ?_
              have hx_7 := zi_ix2t a ((u 21 (zn a))) (by omega) (by omega)
              obtain ⟨hx_7, hx_7n⟩ := hx_7
              refine zr_iast X hW dX10_receive_95 (zm_s23 hM) rfl rfl (zi_vp (by omega)) (fun H locs hW => ?_)
              rw [hx_7n] at hW
              have hW : zw_St Y N0 ad sh (zm_mix (zm_w u 23 (2 * zn a + zn ((u 21 (zn a)))) t) g0) s H locs := zm_st (by decide) hW
              obtain ⟨u_8, hu_8⟩ : ∃ z : zm_T, z = zm_w u 23 (2 * zn a + zn ((u 21 (zn a)))) t := ⟨_, rfl⟩
              rw [← hu_8] at hW
              refine lv_aload_n X.1 X.2.1 dX10_receive_96 rfl (lv_at hl 0 rfl) ?_
              refine zr_get (v := .ref (ad 24)) X hW fs_X10_71_9 dX10_receive_97 (zm_s0 hM) rfl rfl rfl ?_
              refine lv_iconst (v := 2) X.1 X.2.1 dX10_receive_100 (by decide) ?_
              refine lv_iload_n X.1 X.2.1 dX10_receive_101 rfl (lv_at hl 1 rfl) ?_
              refine lv_imul X.1 X.2.1 dX10_receive_102 ?_
              refine lv_aload_n X.1 X.2.1 dX10_receive_103 rfl (lv_at hl 0 rfl) ?_
              refine zr_get (v := .ref (ad 21)) X hW fs_X10_62_9 dX10_receive_104 (zm_s0 hM) rfl rfl rfl ?_
              refine lv_iload_n X.1 X.2.1 dX10_receive_107 rfl (lv_at hl 1 rfl) ?_
              refine zr_iald (v := u 21 (zn a)) X hW dX10_receive_108 (zm_s21 hM) rfl rfl (zi_vp (by omega)) ((show zm_mix u_8 g0 21 (a : Int32).toNatClampNeg = u_8 21 (zn a) from rfl).trans (show u_8 21 (zn a) = u 21 (zn a) from (by rw [hu_8]; rfl))) ?_
              refine lv_iadd X.1 X.2.1 dX10_receive_109 ?_
              refine lv_aload_n X.1 X.2.1 dX10_receive_110 rfl (lv_at hl 0 rfl) ?_
              refine zr_get (v := .ref (ad 12)) X hW fs_X10_38_9 dX10_receive_111 (zm_s0 hM) rfl rfl rfl ?_
              refine lv_iload_n X.1 X.2.1 dX10_receive_114 rfl (lv_at hl 2 rfl) ?_
              refine zr_iald (v := u 12 (zn q)) X hW dX10_receive_115 (zm_s12 hM) rfl rfl (zi_vp (by omega)) ((show zm_mix u_8 g0 12 (q : Int32).toNatClampNeg = u_8 12 (zn q) from rfl).trans (show u_8 12 (zn q) = u 12 (zn q) from (by rw [hu_8]; rfl))) ?_
              have hx_9 := zi_ix2t a ((u 21 (zn a))) (by omega) (by omega)
              obtain ⟨hx_9, hx_9n⟩ := hx_9
              refine zr_iast X hW dX10_receive_116 (zm_s24 hM) rfl rfl (zi_vp (by omega)) (fun H locs hW => ?_)
              rw [hx_9n] at hW
              have hW : zw_St Y N0 ad sh (zm_mix (zm_w u_8 24 (2 * zn a + zn ((u 21 (zn a)))) (u 12 (zn q))) g0) s H locs := zm_st (by decide) hW
              obtain ⟨u_10, hu_10⟩ : ∃ z : zm_T, z = zm_w u_8 24 (2 * zn a + zn ((u 21 (zn a)))) (u 12 (zn q)) := ⟨_, rfl⟩
              rw [← hu_10] at hW
              refine lv_aload_n X.1 X.2.1 dX10_receive_117 rfl (lv_at hl 0 rfl) ?_
              refine zr_get (v := .ref (ad 20)) X hW fs_X10_59_9 dX10_receive_118 (zm_s0 hM) rfl rfl rfl ?_
              refine lv_iload_n X.1 X.2.1 dX10_receive_121 rfl (lv_at hl 1 rfl) ?_
              refine lv_iconst (v := 0) X.1 X.2.1 dX10_receive_122 (by decide) ?_
              refine zr_iast X hW dX10_receive_123 (zm_s20 hM) rfl rfl (zi_vp (by omega)) (fun H locs hW => ?_)
              have hW : zw_St Y N0 ad sh (zm_mix (zm_w u_10 20 (zn a) 0) g0) s H locs := zm_st (by decide) hW
              obtain ⟨u_11, hu_11⟩ : ∃ z : zm_T, z = zm_w u_10 20 (zn a) 0 := ⟨_, rfl⟩
              rw [← hu_11] at hW
              refine lv_iconst (v := 1) X.1 X.2.1 dX10_receive_124 (by decide) ?_
              have e9 : sp_receive a q t u = (1, u_11) := (by subst hu_11 hu_10 hu_8; unfold sp_receive; (repeat (first | refine (if_pos (by omega)).trans ?_ | refine (if_neg (by omega)).trans ?_)); rfl)
              exact zr_zret X hW dX10_receive_125 (Nat.le_refl _) (Nat.le_refl _) rfl ⟨rfl, rfl, by rw [e9], by rw [e9]⟩
            · refine lv_iconst (v := 0) X.1 X.2.1 dX10_receive_78 (by decide) ?_
              have e9 : sp_receive a q t u = (0, u) := (by unfold sp_receive; (repeat (first | refine (if_pos (by omega)).trans ?_ | refine (if_neg (by omega)).trans ?_)); rfl)
              exact zr_zret X hW dX10_receive_79 (Nat.le_refl _) (Nat.le_refl _) rfl ⟨rfl, rfl, by rw [e9], by rw [e9]⟩
        · subst h9
          have h_4 : ¬ (zs_op u (u 22 (zn a)) q 3) := h_4
          refine zr_if_eq (a := 0) (tgt := 78) X dX10_receive_45 (by decide) (by decide) (fun _ => ?_) (fun c9 => absurd c9 (by decide))
          refine lv_iconst (v := 0) X.1 X.2.1 dX10_receive_78 (by decide) ?_
          have e9 : sp_receive a q t u = (0, u) := (by unfold sp_receive; (repeat (first | refine (if_pos (by omega)).trans ?_ | refine (if_neg (by omega)).trans ?_)); rfl)
          exact zr_zret X hW dX10_receive_79 (Nat.le_refl _) (Nat.le_refl _) rfl ⟨rfl, rfl, by rw [e9], by rw [e9]⟩
      · subst h9
        have h_3 : ¬ (zi_in t 0 ((u 0 8) - 1).toInt) := h_3
        refine zr_if_ne (a := 0) (tgt := 33) X dX10_receive_28 (by decide) (by decide) (fun c9 => absurd c9 (by decide)) (fun _ => ?_)
        refine lv_iconst (v := 0) X.1 X.2.1 dX10_receive_31 (by decide) ?_
        have e9 : sp_receive a q t u = (0, u) := (by unfold sp_receive; (repeat (first | refine (if_pos (by omega)).trans ?_ | refine (if_neg (by omega)).trans ?_)); rfl)
        exact zr_zret X hW dX10_receive_32 (Nat.le_refl _) (Nat.le_refl _) rfl ⟨rfl, rfl, by rw [e9], by rw [e9]⟩
  · subst h9
    have h_1 : ¬ (zs_us a) := h_1
    refine zr_if_eq (a := 0) (tgt := 31) X dX10_receive_5 (by decide) (by decide) (fun _ => ?_) (fun c9 => absurd c9 (by decide))
    refine lv_iconst (v := 0) X.1 X.2.1 dX10_receive_31 (by decide) ?_
    have e9 : sp_receive a q t u = (0, u) := (by unfold sp_receive; (repeat (first | refine (if_pos (by omega)).trans ?_ | refine (if_neg (by omega)).trans ?_)); rfl)
    exact zr_zret X hW dX10_receive_32 (Nat.le_refl _) (Nat.le_refl _) rfl ⟨rfl, rfl, by rw [e9], by rw [e9]⟩

set_option maxHeartbeats 4000000 in
set_option maxRecDepth 100000 in
theorem c_X10_order (l : Launch) (Y : zw_Y) (N0 : Nat) (ad : Nat → Nat) (sh : Nat → Option zw_Sh) (u g0 : zm_T) (hM : zm_S sh) (a o f x : Int32) (hI : zm_I u) : zw_Met l Y N0 yX10_order cX10_order 6 (some .int) 2 49 0 0 ad sh (zm_mix u g0) [.ref (ad 0), .int a, .int o, .int f, .int x] (zp_S ad sh g0 (sp_order a o f x u)) := by
  refine zw_meth (by decide) (Nat.le_of_ble_eq_true rfl) ?_
  intro p e s m below meth c ls X hnm hl hW
  have hl : lv_has ls 6 [(0, .ref (ad 0)), (1, .int a), (2, .int o), (3, .int f), (4, .int x)] := hl
  have hse := zI_se hI
  have hke := zI_ke hI
  have hs1 := zi_sub (u 0 8) 1 (by rw [show (1 : Int32).toInt = 1 from rfl]; omega)
  rw [show (1 : Int32).toInt = 1 from rfl] at hs1
  refine lv_aload_n X.1 X.2.1 dX10_order_0 rfl (lv_at hl 0 rfl) ?_
  refine lv_iload_n X.1 X.2.1 dX10_order_1 rfl (lv_at hl 1 rfl) ?_
  refine zr_callV (As := [.int a]) (rest := []) X hW hl.1 md_X10_user ms_X10_112 dX10_order_2 (zm_s0 hM) rfl rfl rfl rfl (Nat.le_of_ble_eq_true rfl) ⟨Nat.le_of_ble_eq_true rfl, Nat.le_of_ble_eq_true rfl⟩ ⟨Nat.le_of_ble_eq_true rfl, Nat.le_of_ble_eq_true rfl⟩ (c_X10_user l Y N0 ad sh u g0 hM a) (fun v9 ad9 sh9 g9 H locs hp hW => ?_)
  rcases hp with ⟨rfl, rfl, rfl, ⟨h_1, h9⟩ | ⟨h_1, h9⟩⟩
  · subst h9
    have h_1 : zs_us a := h_1
    refine zr_if_eq (a := 1) (tgt := 39) X dX10_order_5 (by decide) (by decide) (fun c9 => absurd c9 (by decide)) (fun _ => ?_)
    refine lv_aload_n X.1 X.2.1 dX10_order_8 rfl (lv_at hl 0 rfl) ?_
    refine zr_get (v := .ref (ad 23)) X hW fs_X10_68_9 dX10_order_9 (zm_s0 hM) rfl rfl rfl ?_
    refine lv_iconst (v := 2) X.1 X.2.1 dX10_order_12 (by decide) ?_
    refine lv_iload_n X.1 X.2.1 dX10_order_13 rfl (lv_at hl 1 rfl) ?_
    refine lv_imul X.1 X.2.1 dX10_order_14 ?_
    refine lv_iconst (v := 1) X.1 X.2.1 dX10_order_15 (by decide) ?_
    refine lv_iadd X.1 X.2.1 dX10_order_16 ?_
    have hx_2 := zi_ix21 a (by omega)
    obtain ⟨hx_2, hx_2n⟩ := hx_2
    refine zr_iald (v := u 23 (2 * zn a + 1)) X hW dX10_order_17 (zm_s23 hM) rfl rfl (zi_vp (by omega)) (by rw [hx_2n]; rfl) ?_
    refine zr_if_lt (a := (u 23 (2 * zn a + 1)).toInt) (tgt := 39) X dX10_order_18 (by decide) rfl (fun c_3 => ?_) (fun c_3 => ?_)
    · refine lv_iconst (v := (-1)) X.1 X.2.1 dX10_order_39 (by decide) ?_
      have e9 : sp_order a o f x u = ((-1), u) := (by unfold sp_order; (repeat (first | refine (if_pos (by omega)).trans ?_ | refine (if_neg (by omega)).trans ?_)); first | rfl | exact Prod.ext rfl (zs_mk3 rfl).symm)
      exact zr_iret X hW dX10_order_40 (Nat.le_refl _) (Nat.le_refl _) ⟨rfl, rfl, by rw [e9], by rw [e9]⟩
    · refine lv_iload_n X.1 X.2.1 dX10_order_21 rfl (lv_at hl 2 rfl) ?_
      refine lv_iconst (v := 1) X.1 X.2.1 dX10_order_22 (by decide) ?_
      refine lv_iconst (v := 3) X.1 X.2.1 dX10_order_23 (by decide) ?_
      refine zr_callS (As := [.int o, .int 1, .int 3]) (rest := []) X hW hl.1 md_X10_in ms_X10_87 dX10_order_24 rfl rfl (Nat.le_of_ble_eq_true rfl) ⟨Nat.le_of_ble_eq_true rfl, Nat.le_of_ble_eq_true rfl⟩ ⟨Nat.le_of_ble_eq_true rfl, Nat.le_of_ble_eq_true rfl⟩ (c_X10_in l Y N0 ad sh (zm_mix u g0) o 1 3) (fun v9 ad9 sh9 g9 H locs hp hW => ?_)
      rcases hp with ⟨rfl, rfl, rfl, ⟨h_4, h9⟩ | ⟨h_4, h9⟩⟩
      · subst h9
        have h_4 : zi_in o 1 3 := h_4
        refine zr_if_eq (a := 1) (tgt := 39) X dX10_order_27 (by decide) (by decide) (fun c9 => absurd c9 (by decide)) (fun _ => ?_)
        refine lv_iload_n X.1 X.2.1 dX10_order_30 rfl (lv_at hl 3 rfl) ?_
        refine lv_iconst (v := 0) X.1 X.2.1 dX10_order_31 (by decide) ?_
        refine lv_iconst (v := 2) X.1 X.2.1 dX10_order_32 (by decide) ?_
        refine zr_callS (As := [.int f, .int 0, .int 2]) (rest := []) X hW hl.1 md_X10_in ms_X10_87 dX10_order_33 rfl rfl (Nat.le_of_ble_eq_true rfl) ⟨Nat.le_of_ble_eq_true rfl, Nat.le_of_ble_eq_true rfl⟩ ⟨Nat.le_of_ble_eq_true rfl, Nat.le_of_ble_eq_true rfl⟩ (c_X10_in l Y N0 ad sh (zm_mix u g0) f 0 2) (fun v9 ad9 sh9 g9 H locs hp hW => ?_)
        rcases hp with ⟨rfl, rfl, rfl, ⟨h_5, h9⟩ | ⟨h_5, h9⟩⟩
        · subst h9
          have h_5 : zi_in f 0 2 := h_5
          refine zr_if_ne (a := 1) (tgt := 41) X dX10_order_36 (by decide) (by decide) (fun _ => ?_) (fun c9 => absurd c9 (by decide))
          refine lv_aload_n X.1 X.2.1 dX10_order_41 rfl (lv_at hl 0 rfl) ?_
          refine zr_get (v := .int (u 0 8)) X hW fs_X10_102_9 dX10_order_42 (zm_s0 hM) rfl rfl rfl ?_
          refine lv_sipush (v := 150) X.1 X.2.1 dX10_order_45 (by decide) ?_
          refine zr_icmp_lt (a := (u 0 8).toInt) (b := 150) (tgt := 54) X dX10_order_48 (by decide) rfl (by decide) (fun c_6 => ?_) (fun c_6 => ?_)
          · refine lv_aload_n X.1 X.2.1 dX10_order_54 rfl (lv_at hl 0 rfl) ?_
            refine zr_get (v := .ref (ad 25)) X hW fs_X10_74_9 dX10_order_55 (zm_s0 hM) rfl rfl rfl ?_
            refine lv_iload_n X.1 X.2.1 dX10_order_58 rfl (lv_at hl 1 rfl) ?_
            refine lv_dup2_11 X.1 X.2.1 dX10_order_59 rfl rfl ?_
            refine zr_iald (v := u 25 (zn a)) X hW dX10_order_60 (zm_s25 hM) rfl rfl (zi_vp (by omega)) rfl ?_
            refine lv_iconst (v := 1) X.1 X.2.1 dX10_order_61 (by decide) ?_
            refine lv_iadd X.1 X.2.1 dX10_order_62 ?_
            refine zr_iast X hW dX10_order_63 (zm_s25 hM) rfl rfl (zi_vp (by omega)) (fun H locs hW => ?_)
            have hW : zw_St Y N0 ad sh (zm_mix (zm_w u 25 (zn a) ((u 25 (zn a)) + 1)) g0) s H locs := zm_st (by decide) hW
            obtain ⟨u_7, hu_7⟩ : ∃ z : zm_T, z = zm_w u 25 (zn a) ((u 25 (zn a)) + 1) := ⟨_, rfl⟩
            rw [← hu_7] at hW
            refine lv_aload_n X.1 X.2.1 dX10_order_64 rfl (lv_at hl 0 rfl) ?_
            refine lv_aload_n X.1 X.2.1 dX10_order_65 rfl (lv_at hl 0 rfl) ?_
            refine zr_get (v := .ref (ad 24)) X hW fs_X10_71_9 dX10_order_66 (zm_s0 hM) rfl rfl rfl ?_
            refine lv_iconst (v := 2) X.1 X.2.1 dX10_order_69 (by decide) ?_
            refine lv_iload_n X.1 X.2.1 dX10_order_70 rfl (lv_at hl 1 rfl) ?_
            refine lv_imul X.1 X.2.1 dX10_order_71 ?_
            refine lv_iconst (v := 1) X.1 X.2.1 dX10_order_72 (by decide) ?_
            refine lv_iadd X.1 X.2.1 dX10_order_73 ?_
            have hx_8 := zi_ix21 a (by omega)
            obtain ⟨hx_8, hx_8n⟩ := hx_8
            refine zr_iald (v := u 24 (2 * zn a + 1)) X hW dX10_order_74 (zm_s24 hM) rfl rfl (zi_vp (by omega)) ((show zm_mix u_7 g0 24 ((2 * a) + 1 : Int32).toNatClampNeg = u_7 24 (2 * zn a + 1) from (by rw [hx_8n]; rfl)).trans (show u_7 24 (2 * zn a + 1) = u 24 (2 * zn a + 1) from (by rw [hu_7]; rfl))) ?_
            refine lv_iload_n X.1 X.2.1 dX10_order_75 rfl (lv_at hl 1 rfl) ?_
            refine lv_aload_n X.1 X.2.1 dX10_order_76 rfl (lv_at hl 0 rfl) ?_
            refine zr_get (v := .ref (ad 1)) X hW fs_X10_7_9 dX10_order_77 (zm_s0 hM) rfl rfl rfl ?_
            refine lv_iload_n X.1 X.2.1 dX10_order_80 rfl (lv_at hl 1 rfl) ?_
            refine zr_iald (v := u 1 (zn a)) X hW dX10_order_81 (zm_s1 hM) rfl rfl (zi_vp (by omega)) ((show zm_mix u_7 g0 1 (a : Int32).toNatClampNeg = u_7 1 (zn a) from rfl).trans (show u_7 1 (zn a) = u 1 (zn a) from (by rw [hu_7]; rfl))) ?_
            refine lv_aload_n X.1 X.2.1 dX10_order_82 rfl (lv_at hl 0 rfl) ?_
            refine zr_get (v := .ref (ad 25)) X hW fs_X10_74_9 dX10_order_83 (zm_s0 hM) rfl rfl rfl ?_
            refine lv_iload_n X.1 X.2.1 dX10_order_86 rfl (lv_at hl 1 rfl) ?_
            refine zr_iald (v := (u 25 (zn a)) + 1) X hW dX10_order_87 (zm_s25 hM) rfl rfl (zi_vp (by omega)) ((show zm_mix u_7 g0 25 (a : Int32).toNatClampNeg = u_7 25 (zn a) from rfl).trans (show u_7 25 (zn a) = (u 25 (zn a)) + 1 from (by rw [hu_7]; exact zm_ws _ _ _ _))) ?_
            refine zr_callV (As := [.int (u 24 (2 * zn a + 1)), .int a, .int (u 1 (zn a)), .int ((u 25 (zn a)) + 1)]) (rest := []) X hW hl.1 md_X10_makeClaim ms_X10_123 dX10_order_88 (zm_s0 hM) rfl rfl rfl rfl (Nat.le_of_ble_eq_true rfl) ⟨Nat.le_of_ble_eq_true rfl, Nat.le_of_ble_eq_true rfl⟩ ⟨Nat.le_of_ble_eq_true rfl, Nat.le_of_ble_eq_true rfl⟩ (c_X10_makeClaim l Y N0 ad sh u_7 g0 hM (u 24 (2 * zn a + 1)) a (u 1 (zn a)) ((u 25 (zn a)) + 1) (by rw [(show u_7 0 8 = u 0 8 from (by rw [hu_7]; rfl))]; omega)) (fun v9 ad9 sh9 g9 H locs hp hW => ?_)
            obtain ⟨rfl, rfl, _, rfl, rfl, rfl⟩ := hp
            obtain ⟨u_10, hu_10⟩ : ∃ z : zm_T, z = zs_mk u_7 (zs_v 4 (u 24 (2 * zn a + 1)) a (-1) (u 1 (zn a)) ((u 25 (zn a)) + 1) 0 0 0 0) := ⟨_, rfl⟩
            rw [← hu_10] at hW
            rw [(show u_7 0 8 = u 0 8 from (by rw [hu_7]; rfl))]
            refine lv_istore (lv' := [(5, .int (u 0 8)), (0, .ref (ad 0)), (1, .int a), (2, .int o), (3, .int f), (4, .int x)]) X.1 X.2.1 dX10_order_91 hl (by decide) rfl (fun ls hl => ?_)
            refine lv_aload_n X.1 X.2.1 dX10_order_93 rfl (lv_at hl 1 rfl) ?_
            refine zr_get (v := .ref (ad 16)) X hW fs_X10_50_9 dX10_order_94 (zm_s0 hM) rfl rfl rfl ?_
            refine lv_iload X.1 X.2.1 dX10_order_97 (lv_at hl 0 rfl) ?_
            refine lv_iload_n X.1 X.2.1 dX10_order_99 rfl (lv_at hl 3 rfl) ?_
            refine zr_iast X hW dX10_order_100 (zm_s16 hM) rfl rfl (zi_vp (by omega)) (fun H locs hW => ?_)
            have hW : zw_St Y N0 ad sh (zm_mix (zm_w u_10 16 (zn (u 0 8)) o) g0) s H locs := zm_st (by decide) hW
            obtain ⟨u_12, hu_12⟩ : ∃ z : zm_T, z = zm_w u_10 16 (zn (u 0 8)) o := ⟨_, rfl⟩
            rw [← hu_12] at hW
            refine lv_aload_n X.1 X.2.1 dX10_order_101 rfl (lv_at hl 1 rfl) ?_
            refine zr_get (v := .ref (ad 17)) X hW fs_X10_53_9 dX10_order_102 (zm_s0 hM) rfl rfl rfl ?_
            refine lv_iload X.1 X.2.1 dX10_order_105 (lv_at hl 0 rfl) ?_
            refine lv_iload_n X.1 X.2.1 dX10_order_107 rfl (lv_at hl 4 rfl) ?_
            refine zr_iast X hW dX10_order_108 (zm_s17 hM) rfl rfl (zi_vp (by omega)) (fun H locs hW => ?_)
            have hW : zw_St Y N0 ad sh (zm_mix (zm_w u_12 17 (zn (u 0 8)) f) g0) s H locs := zm_st (by decide) hW
            obtain ⟨u_13, hu_13⟩ : ∃ z : zm_T, z = zm_w u_12 17 (zn (u 0 8)) f := ⟨_, rfl⟩
            rw [← hu_13] at hW
            refine lv_aload_n X.1 X.2.1 dX10_order_109 rfl (lv_at hl 1 rfl) ?_
            refine zr_get (v := .ref (ad 18)) X hW fs_X10_56_9 dX10_order_110 (zm_s0 hM) rfl rfl rfl ?_
            refine lv_iload X.1 X.2.1 dX10_order_113 (lv_at hl 0 rfl) ?_
            refine lv_iload X.1 X.2.1 dX10_order_115 (lv_at hl 5 rfl) ?_
            refine zr_iast X hW dX10_order_117 (zm_s18 hM) rfl rfl (zi_vp (by omega)) (fun H locs hW => ?_)
            have hW : zw_St Y N0 ad sh (zm_mix (zm_w u_13 18 (zn (u 0 8)) x) g0) s H locs := zm_st (by decide) hW
            obtain ⟨u_14, hu_14⟩ : ∃ z : zm_T, z = zm_w u_13 18 (zn (u 0 8)) x := ⟨_, rfl⟩
            rw [← hu_14] at hW
            refine lv_iload X.1 X.2.1 dX10_order_118 (lv_at hl 0 rfl) ?_
            have e9 : sp_order a o f x u = (u 0 8, u_14) := (by subst hu_14 hu_13 hu_12 hu_10 hu_7; unfold sp_order; (repeat (first | refine (if_pos (by omega)).trans ?_ | refine (if_neg (by omega)).trans ?_)); first | rfl | exact Prod.ext rfl (zs_mk3 rfl).symm)
            exact zr_iret X hW dX10_order_120 (Nat.le_refl _) (Nat.le_refl _) ⟨rfl, rfl, by rw [e9], by rw [e9]⟩
          · refine lv_bipush (v := (-7)) X.1 X.2.1 dX10_order_51 (by decide) ?_
            have e9 : sp_order a o f x u = ((-7), u) := (by unfold sp_order; (repeat (first | refine (if_pos (by omega)).trans ?_ | refine (if_neg (by omega)).trans ?_)); first | rfl | exact Prod.ext rfl (zs_mk3 rfl).symm)
            exact zr_iret X hW dX10_order_53 (Nat.le_refl _) (Nat.le_refl _) ⟨rfl, rfl, by rw [e9], by rw [e9]⟩
        · subst h9
          have h_5 : ¬ (zi_in f 0 2) := h_5
          refine zr_if_ne (a := 0) (tgt := 41) X dX10_order_36 (by decide) (by decide) (fun c9 => absurd c9 (by decide)) (fun _ => ?_)
          refine lv_iconst (v := (-1)) X.1 X.2.1 dX10_order_39 (by decide) ?_
          have e9 : sp_order a o f x u = ((-1), u) := (by unfold sp_order; (repeat (first | refine (if_pos (by omega)).trans ?_ | refine (if_neg (by omega)).trans ?_)); first | rfl | exact Prod.ext rfl (zs_mk3 rfl).symm)
          exact zr_iret X hW dX10_order_40 (Nat.le_refl _) (Nat.le_refl _) ⟨rfl, rfl, by rw [e9], by rw [e9]⟩
      · subst h9
        have h_4 : ¬ (zi_in o 1 3) := h_4
        refine zr_if_eq (a := 0) (tgt := 39) X dX10_order_27 (by decide) (by decide) (fun _ => ?_) (fun c9 => absurd c9 (by decide))
        refine lv_iconst (v := (-1)) X.1 X.2.1 dX10_order_39 (by decide) ?_
        have e9 : sp_order a o f x u = ((-1), u) := (by unfold sp_order; (repeat (first | refine (if_pos (by omega)).trans ?_ | refine (if_neg (by omega)).trans ?_)); first | rfl | exact Prod.ext rfl (zs_mk3 rfl).symm)
        exact zr_iret X hW dX10_order_40 (Nat.le_refl _) (Nat.le_refl _) ⟨rfl, rfl, by rw [e9], by rw [e9]⟩
  · subst h9
    have h_1 : ¬ (zs_us a) := h_1
    refine zr_if_eq (a := 0) (tgt := 39) X dX10_order_5 (by decide) (by decide) (fun _ => ?_) (fun c9 => absurd c9 (by decide))
    refine lv_iconst (v := (-1)) X.1 X.2.1 dX10_order_39 (by decide) ?_
    have e9 : sp_order a o f x u = ((-1), u) := (by unfold sp_order; (repeat (first | refine (if_pos (by omega)).trans ?_ | refine (if_neg (by omega)).trans ?_)); first | rfl | exact Prod.ext rfl (zs_mk3 rfl).symm)
    exact zr_iret X hW dX10_order_40 (Nat.le_refl _) (Nat.le_refl _) ⟨rfl, rfl, by rw [e9], by rw [e9]⟩

set_option maxHeartbeats 4000000 in
set_option maxRecDepth 100000 in
theorem c_X10_bothSeals (l : Launch) (Y : zw_Y) (N0 : Nat) (ad : Nat → Nat) (sh : Nat → Option zw_Sh) (u g0 : zm_T) (hM : zm_S sh) (cn t nc en la ak : Int32) (ht : 0 ≤ t.toInt ∧ t.toInt ≤ 1) (h8 : 0 ≤ (u 0 8).toInt ∧ (u 0 8).toInt ≤ 148) : zw_Met l Y N0 yX10_bothSeals cX10_bothSeals 8 (some .int) 2 51 0 0 ad sh (zm_mix u g0) [.ref (ad 0), .int cn, .int t, .int nc, .int en, .int la, .int ak] (zp_G ad sh (fun v g' => ∃ r : Int32, v = some (.int r) ∧ r = u 0 8 ∧ g' = zm_mix (zs_two u cn t nc en la ak) g0)) := by
  refine zw_meth (by decide) (Nat.le_of_ble_eq_true rfl) ?_
  intro p e s m below meth c ls X hnm hl hW
  have hl : lv_has ls 8 [(0, .ref (ad 0)), (1, .int cn), (2, .int t), (3, .int nc), (4, .int en), (5, .int la), (6, .int ak)] := hl
  have h81 := zi_add (u 0 8) 1 (by rw [show (1 : Int32).toInt = 1 from rfl]; omega)
  rw [show (1 : Int32).toInt = 1 from rfl] at h81
  refine lv_aload_n X.1 X.2.1 dX10_bothSeals_0 rfl (lv_at hl 0 rfl) ?_
  refine lv_aload_n X.1 X.2.1 dX10_bothSeals_1 rfl (lv_at hl 0 rfl) ?_
  refine zr_get (v := .ref (ad 5)) X hW fs_X10_20_9 dX10_bothSeals_2 (zm_s0 hM) rfl rfl rfl ?_
  refine lv_iload_n X.1 X.2.1 dX10_bothSeals_5 rfl (lv_at hl 2 rfl) ?_
  refine zr_iald (v := u 5 (zn t)) X hW dX10_bothSeals_6 (zm_s5 hM) rfl rfl (zi_vp (by omega)) rfl ?_
  refine lv_iload_n X.1 X.2.1 dX10_bothSeals_7 rfl (lv_at hl 1 rfl) ?_
  refine lv_aload_n X.1 X.2.1 dX10_bothSeals_8 rfl (lv_at hl 0 rfl) ?_
  refine zr_get (v := .int (u 0 2)) X hW fs_X10_91_9 dX10_bothSeals_9 (zm_s0 hM) rfl rfl rfl ?_
  refine lv_aload_n X.1 X.2.1 dX10_bothSeals_12 rfl (lv_at hl 0 rfl) ?_
  refine zr_get (v := .ref (ad 1)) X hW fs_X10_7_9 dX10_bothSeals_13 (zm_s0 hM) rfl rfl rfl ?_
  refine lv_iconst (v := 0) X.1 X.2.1 dX10_bothSeals_16 (by decide) ?_
  refine zr_iald (v := u 1 0) X hW dX10_bothSeals_17 (zm_s1 hM) rfl rfl (zi_vp (by decide)) rfl ?_
  refine lv_iload X.1 X.2.1 dX10_bothSeals_18 (lv_at hl 4 rfl) ?_
  refine lv_iload X.1 X.2.1 dX10_bothSeals_20 (lv_at hl 5 rfl) ?_
  refine zr_callV (As := [.int (u 5 (zn t)), .int cn, .int (u 0 2), .int (u 1 0), .int en, .int la]) (rest := []) X hW hl.1 md_X10_makeTicket ms_X10_129 dX10_bothSeals_22 (zm_s0 hM) rfl rfl rfl rfl (Nat.le_of_ble_eq_true rfl) ⟨Nat.le_of_ble_eq_true rfl, Nat.le_of_ble_eq_true rfl⟩ ⟨Nat.le_of_ble_eq_true rfl, Nat.le_of_ble_eq_true rfl⟩ (c_X10_makeTicket l Y N0 ad sh u g0 hM (u 5 (zn t)) cn (u 0 2) (u 1 0) en la (by omega)) (fun v9 ad9 sh9 g9 H locs hp hW => ?_)
  obtain ⟨rfl, rfl, _, rfl, rfl, rfl⟩ := hp
  obtain ⟨u_2, hu_2⟩ : ∃ z : zm_T, z = zs_mk u (zs_v 2 (u 5 (zn t)) cn (u 0 2) (u 1 0) en la 0 0 0) := ⟨_, rfl⟩
  rw [← hu_2] at hW
  refine lv_pop X.1 X.2.1 dX10_bothSeals_25 rfl ?_
  refine lv_aload_n X.1 X.2.1 dX10_bothSeals_26 rfl (lv_at hl 0 rfl) ?_
  refine lv_iload X.1 X.2.1 dX10_bothSeals_27 (lv_at hl 6 rfl) ?_
  refine lv_aload_n X.1 X.2.1 dX10_bothSeals_29 rfl (lv_at hl 0 rfl) ?_
  refine zr_get (v := .int (u 0 2)) X hW fs_X10_91_9 dX10_bothSeals_30 (zm_s0 hM) rfl rfl (congrArg Value.int (show u_2 0 2 = u 0 2 from (by rw [hu_2]; exact zs_mk0k _ _ (by decide)))) ?_
  refine lv_iload_n X.1 X.2.1 dX10_bothSeals_33 rfl (lv_at hl 3 rfl) ?_
  refine lv_iload_n X.1 X.2.1 dX10_bothSeals_34 rfl (lv_at hl 2 rfl) ?_
  refine lv_iload X.1 X.2.1 dX10_bothSeals_35 (lv_at hl 4 rfl) ?_
  refine zr_callV (As := [.int ak, .int (u 0 2), .int nc, .int t, .int en]) (rest := []) X hW hl.1 md_X10_makePart ms_X10_133 dX10_bothSeals_37 (zm_s0 hM) rfl rfl rfl rfl (Nat.le_of_ble_eq_true rfl) ⟨Nat.le_of_ble_eq_true rfl, Nat.le_of_ble_eq_true rfl⟩ ⟨Nat.le_of_ble_eq_true rfl, Nat.le_of_ble_eq_true rfl⟩ (c_X10_makePart l Y N0 ad sh u_2 g0 hM ak (u 0 2) nc t en (by rw [(show u_2 0 8 = u 0 8 + 1 from (by rw [hu_2]; exact zs_mk8 _ _)), h81]; omega)) (fun v9 ad9 sh9 g9 H locs hp hW => ?_)
  obtain ⟨rfl, rfl, _, rfl, rfl, rfl⟩ := hp
  obtain ⟨u_5, hu_5⟩ : ∃ z : zm_T, z = zs_mk u_2 (zs_v 3 ak (-1) (u 0 2) nc t en 0 0 0) := ⟨_, rfl⟩
  rw [← hu_5] at hW
  rw [(show u_2 0 8 = u 0 8 + 1 from (by rw [hu_2]; exact zs_mk8 _ _))]
  refine lv_istore (lv' := [(7, .int (u 0 8 + 1)), (0, .ref (ad 0)), (1, .int cn), (2, .int t), (3, .int nc), (4, .int en), (5, .int la), (6, .int ak)]) X.1 X.2.1 dX10_bothSeals_40 hl (by decide) rfl (fun ls hl => ?_)
  refine lv_aload_n X.1 X.2.1 dX10_bothSeals_42 rfl (lv_at hl 1 rfl) ?_
  refine lv_dup X.1 X.2.1 dX10_bothSeals_43 rfl ?_
  refine zr_get (v := .int (u 0 2)) X hW fs_X10_91_9 dX10_bothSeals_44 (zm_s0 hM) rfl rfl (congrArg Value.int ((show u_5 0 2 = u_2 0 2 from (by rw [hu_5]; exact zs_mk0k _ _ (by decide))).trans (show u_2 0 2 = u 0 2 from (by rw [hu_2]; exact zs_mk0k _ _ (by decide))))) ?_
  refine lv_iconst (v := 1) X.1 X.2.1 dX10_bothSeals_47 (by decide) ?_
  refine lv_iadd X.1 X.2.1 dX10_bothSeals_48 ?_
  refine zr_puti X hW fs_X10_91_9 dX10_bothSeals_49 (zm_s0 hM) rfl rfl rfl rfl (fun H locs hW => ?_)
  have hW : zw_St Y N0 ad sh (zm_mix (zm_w u_5 0 2 ((u 0 2) + 1)) g0) s H locs := zm_st (by decide) hW
  obtain ⟨u_7, hu_7⟩ : ∃ z : zm_T, z = zm_w u_5 0 2 ((u 0 2) + 1) := ⟨_, rfl⟩
  rw [← hu_7] at hW
  refine lv_iload X.1 X.2.1 dX10_bothSeals_52 (lv_at hl 0 rfl) ?_
  refine lv_iconst (v := 1) X.1 X.2.1 dX10_bothSeals_54 (by decide) ?_
  refine lv_isub X.1 X.2.1 dX10_bothSeals_55 ?_
  have e9 : u_7 = zs_two u cn t nc en la ak := by rw [hu_7, hu_5, hu_2]; rfl
  exact zr_iret X hW dX10_bothSeals_56 (Nat.le_refl _) (Nat.le_refl _) ⟨rfl, rfl, _, rfl, by rw [Int32.add_sub_cancel], by rw [e9]⟩

set_option maxHeartbeats 4000000 in
set_option maxRecDepth 100000 in
theorem c_X10_issue (l : Launch) (Y : zw_Y) (N0 : Nat) (ad : Nat → Nat) (sh : Nat → Option zw_Sh) (u g0 : zm_T) (hM : zm_S sh) (cn t nc q li : Int32) (hI : zm_I u) : zw_Met l Y N0 yX10_issue cX10_issue 8 (some .int) 3 78 0 0 ad sh (zm_mix u g0) [.ref (ad 0), .int cn, .int t, .int nc, .int q, .int li] (zp_S ad sh g0 (sp_issue cn t nc q li u)) := by
  refine zw_meth (by decide) (Nat.le_of_ble_eq_true rfl) ?_
  intro p e s m below meth c ls X hnm hl hW
  have hl : lv_has ls 8 [(0, .ref (ad 0)), (1, .int cn), (2, .int t), (3, .int nc), (4, .int q), (5, .int li)] := hl
  have hse := zI_se hI
  have hke := zI_ke hI
  have hs1 := zi_sub (u 0 8) 1 (by rw [show (1 : Int32).toInt = 1 from rfl]; omega)
  rw [show (1 : Int32).toInt = 1 from rfl] at hs1
  refine lv_aload_n X.1 X.2.1 dX10_issue_0 rfl (lv_at hl 0 rfl) ?_
  refine lv_iload_n X.1 X.2.1 dX10_issue_1 rfl (lv_at hl 1 rfl) ?_
  refine zr_callV (As := [.int cn]) (rest := []) X hW hl.1 md_X10_user ms_X10_112 dX10_issue_2 (zm_s0 hM) rfl rfl rfl rfl (Nat.le_of_ble_eq_true rfl) ⟨Nat.le_of_ble_eq_true rfl, Nat.le_of_ble_eq_true rfl⟩ ⟨Nat.le_of_ble_eq_true rfl, Nat.le_of_ble_eq_true rfl⟩ (c_X10_user l Y N0 ad sh u g0 hM cn) (fun v9 ad9 sh9 g9 H locs hp hW => ?_)
  rcases hp with ⟨rfl, rfl, rfl, ⟨h_1, h9⟩ | ⟨h_1, h9⟩⟩
  · subst h9
    have h_1 : zs_us cn := h_1
    refine zr_if_eq (a := 1) (tgt := 39) X dX10_issue_5 (by decide) (by decide) (fun c9 => absurd c9 (by decide)) (fun _ => ?_)
    refine lv_aload_n X.1 X.2.1 dX10_issue_8 rfl (lv_at hl 0 rfl) ?_
    refine lv_iload_n X.1 X.2.1 dX10_issue_9 rfl (lv_at hl 1 rfl) ?_
    refine zr_callV (As := [.int cn]) (rest := []) X hW hl.1 md_X10_booked ms_X10_94 dX10_issue_10 (zm_s0 hM) rfl rfl rfl rfl (Nat.le_of_ble_eq_true rfl) ⟨Nat.le_of_ble_eq_true rfl, Nat.le_of_ble_eq_true rfl⟩ ⟨Nat.le_of_ble_eq_true rfl, Nat.le_of_ble_eq_true rfl⟩ (c_X10_booked l Y N0 ad sh u g0 hM cn) (fun v9 ad9 sh9 g9 H locs hp hW => ?_)
    rcases hp with ⟨rfl, rfl, rfl, ⟨h_2, h9⟩ | ⟨h_2, h9⟩⟩
    · subst h9
      have h_2 : zs_bk u cn := h_2
      refine zr_if_eq (a := 1) (tgt := 39) X dX10_issue_13 (by decide) (by decide) (fun c9 => absurd c9 (by decide)) (fun _ => ?_)
      refine lv_iload_n X.1 X.2.1 dX10_issue_16 rfl (lv_at hl 2 rfl) ?_
      refine lv_iconst (v := 0) X.1 X.2.1 dX10_issue_17 (by decide) ?_
      refine lv_iconst (v := 1) X.1 X.2.1 dX10_issue_18 (by decide) ?_
      refine zr_callS (As := [.int t, .int 0, .int 1]) (rest := []) X hW hl.1 md_X10_in ms_X10_87 dX10_issue_19 rfl rfl (Nat.le_of_ble_eq_true rfl) ⟨Nat.le_of_ble_eq_true rfl, Nat.le_of_ble_eq_true rfl⟩ ⟨Nat.le_of_ble_eq_true rfl, Nat.le_of_ble_eq_true rfl⟩ (c_X10_in l Y N0 ad sh (zm_mix u g0) t 0 1) (fun v9 ad9 sh9 g9 H locs hp hW => ?_)
      rcases hp with ⟨rfl, rfl, rfl, ⟨h_3, h9⟩ | ⟨h_3, h9⟩⟩
      · subst h9
        have h_3 : zi_in t 0 1 := h_3
        refine zr_if_eq (a := 1) (tgt := 39) X dX10_issue_22 (by decide) (by decide) (fun c9 => absurd c9 (by decide)) (fun _ => ?_)
        refine lv_aload_n X.1 X.2.1 dX10_issue_25 rfl (lv_at hl 0 rfl) ?_
        refine lv_iload_n X.1 X.2.1 dX10_issue_26 rfl (lv_at hl 2 rfl) ?_
        refine zr_callV (As := [.int t]) (rest := []) X hW hl.1 md_X10_booked ms_X10_94 dX10_issue_27 (zm_s0 hM) rfl rfl rfl rfl (Nat.le_of_ble_eq_true rfl) ⟨Nat.le_of_ble_eq_true rfl, Nat.le_of_ble_eq_true rfl⟩ ⟨Nat.le_of_ble_eq_true rfl, Nat.le_of_ble_eq_true rfl⟩ (c_X10_booked l Y N0 ad sh u g0 hM t) (fun v9 ad9 sh9 g9 H locs hp hW => ?_)
        rcases hp with ⟨rfl, rfl, rfl, ⟨h_4, h9⟩ | ⟨h_4, h9⟩⟩
        · subst h9
          have h_4 : zs_bk u t := h_4
          refine zr_if_eq (a := 1) (tgt := 39) X dX10_issue_30 (by decide) (by decide) (fun c9 => absurd c9 (by decide)) (fun _ => ?_)
          refine lv_iload X.1 X.2.1 dX10_issue_33 (lv_at hl 5 rfl) ?_
          refine lv_iconst (v := 1) X.1 X.2.1 dX10_issue_35 (by decide) ?_
          refine zr_icmp_ge (a := (li).toInt) (b := 1) (tgt := 41) X dX10_issue_36 (by decide) rfl (by decide) (fun c_5 => ?_) (fun c_5 => ?_)
          · refine lv_aload_n X.1 X.2.1 dX10_issue_41 rfl (lv_at hl 0 rfl) ?_
            refine lv_aload_n X.1 X.2.1 dX10_issue_42 rfl (lv_at hl 0 rfl) ?_
            refine zr_get (v := .ref (ad 5)) X hW fs_X10_20_9 dX10_issue_43 (zm_s0 hM) rfl rfl rfl ?_
            refine lv_iload_n X.1 X.2.1 dX10_issue_46 rfl (lv_at hl 1 rfl) ?_
            refine zr_iald (v := u 5 (zn cn)) X hW dX10_issue_47 (zm_s5 hM) rfl rfl (zi_vp (by omega)) rfl ?_
            refine lv_iload X.1 X.2.1 dX10_issue_48 (lv_at hl 4 rfl) ?_
            refine lv_iconst (v := 1) X.1 X.2.1 dX10_issue_50 (by decide) ?_
            refine zr_callV (As := [.int (u 5 (zn cn)), .int q, .int 1]) (rest := []) X hW hl.1 md_X10_opens ms_X10_126 dX10_issue_51 (zm_s0 hM) rfl rfl rfl rfl (Nat.le_of_ble_eq_true rfl) ⟨Nat.le_of_ble_eq_true rfl, Nat.le_of_ble_eq_true rfl⟩ ⟨Nat.le_of_ble_eq_true rfl, Nat.le_of_ble_eq_true rfl⟩ (c_X10_opens l Y N0 ad sh u g0 hM (u 5 (zn cn)) q 1 hI) (fun v9 ad9 sh9 g9 H locs hp hW => ?_)
            rcases hp with ⟨rfl, rfl, rfl, ⟨h_6, h9⟩ | ⟨h_6, h9⟩⟩
            · subst h9
              have h_6 : zs_op u (u 5 (zn cn)) q 1 := h_6
              refine zr_if_ne (a := 1) (tgt := 60) X dX10_issue_54 (by decide) (by decide) (fun _ => ?_) (fun c9 => absurd c9 (by decide))
              refine lv_aload_n X.1 X.2.1 dX10_issue_60 rfl (lv_at hl 0 rfl) ?_
              refine zr_get (v := .ref (ad 11)) X hW fs_X10_35_9 dX10_issue_61 (zm_s0 hM) rfl rfl rfl ?_
              refine lv_iload X.1 X.2.1 dX10_issue_64 (lv_at hl 4 rfl) ?_
              refine zr_iald (v := u 11 (zn q)) X hW dX10_issue_66 (zm_s11 hM) rfl rfl (zi_vp (by omega)) rfl ?_
              refine lv_iload_n X.1 X.2.1 dX10_issue_67 rfl (lv_at hl 1 rfl) ?_
              refine zr_icmp_eq (a := (u 11 (zn q)).toInt) (b := (cn).toInt) (tgt := 74) X dX10_issue_68 (by decide) rfl rfl (fun c_7 => ?_) (fun c_7 => ?_)
              · refine lv_aload_n X.1 X.2.1 dX10_issue_74 rfl (lv_at hl 0 rfl) ?_
                refine lv_aload_n X.1 X.2.1 dX10_issue_75 rfl (lv_at hl 0 rfl) ?_
                refine zr_get (v := .ref (ad 13)) X hW fs_X10_41_9 dX10_issue_76 (zm_s0 hM) rfl rfl rfl ?_
                refine lv_iload X.1 X.2.1 dX10_issue_79 (lv_at hl 4 rfl) ?_
                refine zr_iald (v := u 13 (zn q)) X hW dX10_issue_81 (zm_s13 hM) rfl rfl (zi_vp (by omega)) rfl ?_
                refine lv_aload_n X.1 X.2.1 dX10_issue_82 rfl (lv_at hl 0 rfl) ?_
                refine zr_get (v := .ref (ad 1)) X hW fs_X10_7_9 dX10_issue_83 (zm_s0 hM) rfl rfl rfl ?_
                refine lv_iconst (v := 0) X.1 X.2.1 dX10_issue_86 (by decide) ?_
                refine zr_iald (v := u 1 0) X hW dX10_issue_87 (zm_s1 hM) rfl rfl (zi_vp (by decide)) rfl ?_
                refine zr_callV (As := [.int (u 13 (zn q)), .int (u 1 0)]) (rest := []) X hW hl.1 md_X10_near ms_X10_137 dX10_issue_88 (zm_s0 hM) rfl rfl rfl rfl (Nat.le_of_ble_eq_true rfl) ⟨Nat.le_of_ble_eq_true rfl, Nat.le_of_ble_eq_true rfl⟩ ⟨Nat.le_of_ble_eq_true rfl, Nat.le_of_ble_eq_true rfl⟩ (c_X10_near l Y N0 ad sh u g0 hM (u 13 (zn q)) (u 1 0) hI) (fun v9 ad9 sh9 g9 H locs hp hW => ?_)
                rcases hp with ⟨rfl, rfl, rfl, ⟨h_8, h9⟩ | ⟨h_8, h9⟩⟩
                · subst h9
                  have h_8 : zs_nr u (u 13 (zn q)) (u 1 0) := h_8
                  refine zr_if_ne (a := 1) (tgt := 97) X dX10_issue_91 (by decide) (by decide) (fun _ => ?_) (fun c9 => absurd c9 (by decide))
                  refine lv_aload_n X.1 X.2.1 dX10_issue_97 rfl (lv_at hl 0 rfl) ?_
                  refine zr_get (v := .int (u 0 2)) X hW fs_X10_91_9 dX10_issue_98 (zm_s0 hM) rfl rfl rfl ?_
                  refine lv_sipush (v := 200) X.1 X.2.1 dX10_issue_101 (by decide) ?_
                  refine zr_icmp_ge (a := (u 0 2).toInt) (b := 200) (tgt := 117) X dX10_issue_104 (by decide) rfl (by decide) (fun c_9 => ?_) (fun c_9 => ?_)
                  · refine lv_bipush (v := (-7)) X.1 X.2.1 dX10_issue_117 (by decide) ?_
                    have e9 : sp_issue cn t nc q li u = ((-7), u) := (by unfold sp_issue; (repeat (first | refine (if_pos (by omega)).trans ?_ | refine (if_neg (by omega)).trans ?_)); first | rfl | exact congrArg (fun z => ((u 0 8, zs_two u cn t nc (u 1 0 + zs_most u cn t li) z (u 5 (zn cn))) : Int32 × zm_T)) (by first | exact if_pos (by omega) | exact if_neg (by omega)))
                    exact zr_iret X hW dX10_issue_119 (Nat.le_refl _) (Nat.le_refl _) ⟨rfl, rfl, by rw [e9], by rw [e9]⟩
                  · refine lv_aload_n X.1 X.2.1 dX10_issue_107 rfl (lv_at hl 0 rfl) ?_
                    refine zr_get (v := .int (u 0 8)) X hW fs_X10_102_9 dX10_issue_108 (zm_s0 hM) rfl rfl rfl ?_
                    refine lv_sipush (v := 148) X.1 X.2.1 dX10_issue_111 (by decide) ?_
                    refine zr_icmp_le (a := (u 0 8).toInt) (b := 148) (tgt := 120) X dX10_issue_114 (by decide) rfl (by decide) (fun c_10 => ?_) (fun c_10 => ?_)
                    · refine lv_iload X.1 X.2.1 dX10_issue_120 (lv_at hl 5 rfl) ?_
                      refine lv_aload_n X.1 X.2.1 dX10_issue_122 rfl (lv_at hl 0 rfl) ?_
                      refine zr_get (v := .ref (ad 6)) X hW fs_X10_23_9 dX10_issue_123 (zm_s0 hM) rfl rfl rfl ?_
                      refine lv_iload_n X.1 X.2.1 dX10_issue_126 rfl (lv_at hl 1 rfl) ?_
                      refine zr_iald (v := u 6 (zn cn)) X hW dX10_issue_127 (zm_s6 hM) rfl rfl (zi_vp (by omega)) rfl ?_
                      refine zr_callS (As := [.int li, .int (u 6 (zn cn))]) (rest := []) X hW hl.1 md_X10_least ms_X10_141 dX10_issue_128 rfl rfl (Nat.le_of_ble_eq_true rfl) ⟨Nat.le_of_ble_eq_true rfl, Nat.le_of_ble_eq_true rfl⟩ ⟨Nat.le_of_ble_eq_true rfl, Nat.le_of_ble_eq_true rfl⟩ (c_X10_least l Y N0 ad sh (zm_mix u g0) li (u 6 (zn cn))) (fun v9 ad9 sh9 g9 H locs hp hW => ?_)
                      obtain ⟨rfl, rfl, rfl, _, rfl, rfl⟩ := hp
                      refine lv_aload_n X.1 X.2.1 dX10_issue_131 rfl (lv_at hl 0 rfl) ?_
                      refine zr_get (v := .ref (ad 6)) X hW fs_X10_23_9 dX10_issue_132 (zm_s0 hM) rfl rfl rfl ?_
                      refine lv_iload_n X.1 X.2.1 dX10_issue_135 rfl (lv_at hl 2 rfl) ?_
                      refine zr_iald (v := u 6 (zn t)) X hW dX10_issue_136 (zm_s6 hM) rfl rfl (zi_vp (by omega)) rfl ?_
                      refine zr_callS (As := [.int (zs_mn li (u 6 (zn cn))), .int (u 6 (zn t))]) (rest := []) X hW hl.1 md_X10_least ms_X10_141 dX10_issue_137 rfl rfl (Nat.le_of_ble_eq_true rfl) ⟨Nat.le_of_ble_eq_true rfl, Nat.le_of_ble_eq_true rfl⟩ ⟨Nat.le_of_ble_eq_true rfl, Nat.le_of_ble_eq_true rfl⟩ (c_X10_least l Y N0 ad sh (zm_mix u g0) (zs_mn li (u 6 (zn cn))) (u 6 (zn t))) (fun v9 ad9 sh9 g9 H locs hp hW => ?_)
                      obtain ⟨rfl, rfl, rfl, _, rfl, rfl⟩ := hp
                      refine lv_istore (lv' := [(6, .int (zs_mn (zs_mn li (u 6 (zn cn))) (u 6 (zn t)))), (0, .ref (ad 0)), (1, .int cn), (2, .int t), (3, .int nc), (4, .int q), (5, .int li)]) X.1 X.2.1 dX10_issue_140 hl (by decide) rfl (fun ls hl => ?_)
                      refine lv_aload_n X.1 X.2.1 dX10_issue_142 rfl (lv_at hl 1 rfl) ?_
                      refine zr_get (v := .ref (ad 1)) X hW fs_X10_7_9 dX10_issue_143 (zm_s0 hM) rfl rfl rfl ?_
                      refine lv_iconst (v := 0) X.1 X.2.1 dX10_issue_146 (by decide) ?_
                      refine zr_iald (v := u 1 0) X hW dX10_issue_147 (zm_s1 hM) rfl rfl (zi_vp (by decide)) rfl ?_
                      refine lv_iload X.1 X.2.1 dX10_issue_148 (lv_at hl 0 rfl) ?_
                      refine lv_iadd X.1 X.2.1 dX10_issue_150 ?_
                      refine lv_istore (lv' := [(7, .int ((u 1 0) + (zs_mn (zs_mn li (u 6 (zn cn))) (u 6 (zn t))))), (6, .int (zs_mn (zs_mn li (u 6 (zn cn))) (u 6 (zn t)))), (0, .ref (ad 0)), (1, .int cn), (2, .int t), (3, .int nc), (4, .int q), (5, .int li)]) X.1 X.2.1 dX10_issue_151 hl (by decide) rfl (fun ls hl => ?_)
                      refine lv_aload_n X.1 X.2.1 dX10_issue_153 rfl (lv_at hl 2 rfl) ?_
                      refine lv_iload_n X.1 X.2.1 dX10_issue_154 rfl (lv_at hl 3 rfl) ?_
                      refine lv_iload_n X.1 X.2.1 dX10_issue_155 rfl (lv_at hl 4 rfl) ?_
                      refine lv_iload_n X.1 X.2.1 dX10_issue_156 rfl (lv_at hl 5 rfl) ?_
                      refine lv_iload X.1 X.2.1 dX10_issue_157 (lv_at hl 0 rfl) ?_
                      refine lv_iload_n X.1 X.2.1 dX10_issue_159 rfl (lv_at hl 4 rfl) ?_
                      refine zr_if_ne (a := (t).toInt) (tgt := 181) X dX10_issue_160 (by decide) rfl (fun c_15 => ?_) (fun c_15 => ?_)
                      · refine lv_iload X.1 X.2.1 dX10_issue_181 (lv_at hl 0 rfl) ?_
                        refine lv_aload_n X.1 X.2.1 dX10_issue_183 rfl (lv_at hl 2 rfl) ?_
                        refine zr_get (v := .ref (ad 5)) X hW fs_X10_20_9 dX10_issue_184 (zm_s0 hM) rfl rfl rfl ?_
                        refine lv_iload_n X.1 X.2.1 dX10_issue_187 rfl (lv_at hl 3 rfl) ?_
                        refine zr_iald (v := u 5 (zn cn)) X hW dX10_issue_188 (zm_s5 hM) rfl rfl (zi_vp (by omega)) rfl ?_
                        refine zr_callV (As := [.int cn, .int t, .int nc, .int ((u 1 0) + (zs_mn (zs_mn li (u 6 (zn cn))) (u 6 (zn t)))), .int ((u 1 0) + (zs_mn (zs_mn li (u 6 (zn cn))) (u 6 (zn t)))), .int (u 5 (zn cn))]) (rest := []) X hW hl.1 md_X10_bothSeals ms_X10_144 dX10_issue_189 (zm_s0 hM) rfl rfl rfl rfl (Nat.le_of_ble_eq_true rfl) ⟨Nat.le_of_ble_eq_true rfl, Nat.le_of_ble_eq_true rfl⟩ ⟨Nat.le_of_ble_eq_true rfl, Nat.le_of_ble_eq_true rfl⟩ (c_X10_bothSeals l Y N0 ad sh u g0 hM cn t nc ((u 1 0) + (zs_mn (zs_mn li (u 6 (zn cn))) (u 6 (zn t)))) ((u 1 0) + (zs_mn (zs_mn li (u 6 (zn cn))) (u 6 (zn t)))) (u 5 (zn cn)) (by omega) (by omega)) (fun v9 ad9 sh9 g9 H locs hp hW => ?_)
                        obtain ⟨rfl, rfl, _, rfl, rfl, rfl⟩ := hp
                        obtain ⟨u_17, hu_17⟩ : ∃ z : zm_T, z = zs_two u cn t nc ((u 1 0) + (zs_mn (zs_mn li (u 6 (zn cn))) (u 6 (zn t)))) ((u 1 0) + (zs_mn (zs_mn li (u 6 (zn cn))) (u 6 (zn t)))) (u 5 (zn cn)) := ⟨_, rfl⟩
                        rw [← hu_17] at hW
                        have e9 : sp_issue cn t nc q li u = (u 0 8, u_17) := (by subst hu_17; unfold sp_issue; (repeat (first | refine (if_pos (by omega)).trans ?_ | refine (if_neg (by omega)).trans ?_)); first | rfl | exact congrArg (fun z => ((u 0 8, zs_two u cn t nc (u 1 0 + zs_most u cn t li) z (u 5 (zn cn))) : Int32 × zm_T)) (by first | exact if_pos (by omega) | exact if_neg (by omega)))
                        exact zr_iret X hW dX10_issue_192 (Nat.le_refl _) (Nat.le_refl _) ⟨rfl, rfl, by rw [e9], by rw [e9]⟩
                      · refine lv_aload_n X.1 X.2.1 dX10_issue_163 rfl (lv_at hl 2 rfl) ?_
                        refine zr_get (v := .ref (ad 1)) X hW fs_X10_7_9 dX10_issue_164 (zm_s0 hM) rfl rfl rfl ?_
                        refine lv_iconst (v := 0) X.1 X.2.1 dX10_issue_167 (by decide) ?_
                        refine zr_iald (v := u 1 0) X hW dX10_issue_168 (zm_s1 hM) rfl rfl (zi_vp (by decide)) rfl ?_
                        refine lv_iconst (v := 5) X.1 X.2.1 dX10_issue_169 (by decide) ?_
                        refine lv_aload_n X.1 X.2.1 dX10_issue_170 rfl (lv_at hl 2 rfl) ?_
                        refine zr_get (v := .ref (ad 6)) X hW fs_X10_23_9 dX10_issue_171 (zm_s0 hM) rfl rfl rfl ?_
                        refine lv_iload_n X.1 X.2.1 dX10_issue_174 rfl (lv_at hl 3 rfl) ?_
                        refine zr_iald (v := u 6 (zn cn)) X hW dX10_issue_175 (zm_s6 hM) rfl rfl (zi_vp (by omega)) rfl ?_
                        refine lv_imul X.1 X.2.1 dX10_issue_176 ?_
                        refine lv_iadd X.1 X.2.1 dX10_issue_177 ?_
                        refine lv_goto (tgt := 183) X.1 X.2.1 dX10_issue_178 (by decide) ?_
                        refine lv_aload_n X.1 X.2.1 dX10_issue_183 rfl (lv_at hl 2 rfl) ?_
                        refine zr_get (v := .ref (ad 5)) X hW fs_X10_20_9 dX10_issue_184 (zm_s0 hM) rfl rfl rfl ?_
                        refine lv_iload_n X.1 X.2.1 dX10_issue_187 rfl (lv_at hl 3 rfl) ?_
                        refine zr_iald (v := u 5 (zn cn)) X hW dX10_issue_188 (zm_s5 hM) rfl rfl (zi_vp (by omega)) rfl ?_
                        refine zr_callV (As := [.int cn, .int t, .int nc, .int ((u 1 0) + (zs_mn (zs_mn li (u 6 (zn cn))) (u 6 (zn t)))), .int ((u 1 0) + (5 * (u 6 (zn cn)))), .int (u 5 (zn cn))]) (rest := []) X hW hl.1 md_X10_bothSeals ms_X10_144 dX10_issue_189 (zm_s0 hM) rfl rfl rfl rfl (Nat.le_of_ble_eq_true rfl) ⟨Nat.le_of_ble_eq_true rfl, Nat.le_of_ble_eq_true rfl⟩ ⟨Nat.le_of_ble_eq_true rfl, Nat.le_of_ble_eq_true rfl⟩ (c_X10_bothSeals l Y N0 ad sh u g0 hM cn t nc ((u 1 0) + (zs_mn (zs_mn li (u 6 (zn cn))) (u 6 (zn t)))) ((u 1 0) + (5 * (u 6 (zn cn)))) (u 5 (zn cn)) (by omega) (by omega)) (fun v9 ad9 sh9 g9 H locs hp hW => ?_)
                        obtain ⟨rfl, rfl, _, rfl, rfl, rfl⟩ := hp
                        obtain ⟨u_20, hu_20⟩ : ∃ z : zm_T, z = zs_two u cn t nc ((u 1 0) + (zs_mn (zs_mn li (u 6 (zn cn))) (u 6 (zn t)))) ((u 1 0) + (5 * (u 6 (zn cn)))) (u 5 (zn cn)) := ⟨_, rfl⟩
                        rw [← hu_20] at hW
                        have e9 : sp_issue cn t nc q li u = (u 0 8, u_20) := (by subst hu_20; unfold sp_issue; (repeat (first | refine (if_pos (by omega)).trans ?_ | refine (if_neg (by omega)).trans ?_)); first | rfl | exact congrArg (fun z => ((u 0 8, zs_two u cn t nc (u 1 0 + zs_most u cn t li) z (u 5 (zn cn))) : Int32 × zm_T)) (by first | exact if_pos (by omega) | exact if_neg (by omega)))
                        exact zr_iret X hW dX10_issue_192 (Nat.le_refl _) (Nat.le_refl _) ⟨rfl, rfl, by rw [e9], by rw [e9]⟩
                    · refine lv_bipush (v := (-7)) X.1 X.2.1 dX10_issue_117 (by decide) ?_
                      have e9 : sp_issue cn t nc q li u = ((-7), u) := (by unfold sp_issue; (repeat (first | refine (if_pos (by omega)).trans ?_ | refine (if_neg (by omega)).trans ?_)); first | rfl | exact congrArg (fun z => ((u 0 8, zs_two u cn t nc (u 1 0 + zs_most u cn t li) z (u 5 (zn cn))) : Int32 × zm_T)) (by first | exact if_pos (by omega) | exact if_neg (by omega)))
                      exact zr_iret X hW dX10_issue_119 (Nat.le_refl _) (Nat.le_refl _) ⟨rfl, rfl, by rw [e9], by rw [e9]⟩
                · subst h9
                  have h_8 : ¬ (zs_nr u (u 13 (zn q)) (u 1 0)) := h_8
                  refine zr_if_ne (a := 0) (tgt := 97) X dX10_issue_91 (by decide) (by decide) (fun c9 => absurd c9 (by decide)) (fun _ => ?_)
                  refine lv_bipush (v := (-4)) X.1 X.2.1 dX10_issue_94 (by decide) ?_
                  have e9 : sp_issue cn t nc q li u = ((-4), u) := (by unfold sp_issue; (repeat (first | refine (if_pos (by omega)).trans ?_ | refine (if_neg (by omega)).trans ?_)); first | rfl | exact congrArg (fun z => ((u 0 8, zs_two u cn t nc (u 1 0 + zs_most u cn t li) z (u 5 (zn cn))) : Int32 × zm_T)) (by first | exact if_pos (by omega) | exact if_neg (by omega)))
                  exact zr_iret X hW dX10_issue_96 (Nat.le_refl _) (Nat.le_refl _) ⟨rfl, rfl, by rw [e9], by rw [e9]⟩
              · refine lv_bipush (v := (-3)) X.1 X.2.1 dX10_issue_71 (by decide) ?_
                have e9 : sp_issue cn t nc q li u = ((-3), u) := (by unfold sp_issue; (repeat (first | refine (if_pos (by omega)).trans ?_ | refine (if_neg (by omega)).trans ?_)); first | rfl | exact congrArg (fun z => ((u 0 8, zs_two u cn t nc (u 1 0 + zs_most u cn t li) z (u 5 (zn cn))) : Int32 × zm_T)) (by first | exact if_pos (by omega) | exact if_neg (by omega)))
                exact zr_iret X hW dX10_issue_73 (Nat.le_refl _) (Nat.le_refl _) ⟨rfl, rfl, by rw [e9], by rw [e9]⟩
            · subst h9
              have h_6 : ¬ (zs_op u (u 5 (zn cn)) q 1) := h_6
              refine zr_if_ne (a := 0) (tgt := 60) X dX10_issue_54 (by decide) (by decide) (fun c9 => absurd c9 (by decide)) (fun _ => ?_)
              refine lv_bipush (v := (-2)) X.1 X.2.1 dX10_issue_57 (by decide) ?_
              have e9 : sp_issue cn t nc q li u = ((-2), u) := (by unfold sp_issue; (repeat (first | refine (if_pos (by omega)).trans ?_ | refine (if_neg (by omega)).trans ?_)); first | rfl | exact congrArg (fun z => ((u 0 8, zs_two u cn t nc (u 1 0 + zs_most u cn t li) z (u 5 (zn cn))) : Int32 × zm_T)) (by first | exact if_pos (by omega) | exact if_neg (by omega)))
              exact zr_iret X hW dX10_issue_59 (Nat.le_refl _) (Nat.le_refl _) ⟨rfl, rfl, by rw [e9], by rw [e9]⟩
          · refine lv_iconst (v := (-1)) X.1 X.2.1 dX10_issue_39 (by decide) ?_
            have e9 : sp_issue cn t nc q li u = ((-1), u) := (by unfold sp_issue; (repeat (first | refine (if_pos (by omega)).trans ?_ | refine (if_neg (by omega)).trans ?_)); first | rfl | exact congrArg (fun z => ((u 0 8, zs_two u cn t nc (u 1 0 + zs_most u cn t li) z (u 5 (zn cn))) : Int32 × zm_T)) (by first | exact if_pos (by omega) | exact if_neg (by omega)))
            exact zr_iret X hW dX10_issue_40 (Nat.le_refl _) (Nat.le_refl _) ⟨rfl, rfl, by rw [e9], by rw [e9]⟩
        · subst h9
          have h_4 : ¬ (zs_bk u t) := h_4
          refine zr_if_eq (a := 0) (tgt := 39) X dX10_issue_30 (by decide) (by decide) (fun _ => ?_) (fun c9 => absurd c9 (by decide))
          refine lv_iconst (v := (-1)) X.1 X.2.1 dX10_issue_39 (by decide) ?_
          have e9 : sp_issue cn t nc q li u = ((-1), u) := (by unfold sp_issue; (repeat (first | refine (if_pos (by omega)).trans ?_ | refine (if_neg (by omega)).trans ?_)); first | rfl | exact congrArg (fun z => ((u 0 8, zs_two u cn t nc (u 1 0 + zs_most u cn t li) z (u 5 (zn cn))) : Int32 × zm_T)) (by first | exact if_pos (by omega) | exact if_neg (by omega)))
          exact zr_iret X hW dX10_issue_40 (Nat.le_refl _) (Nat.le_refl _) ⟨rfl, rfl, by rw [e9], by rw [e9]⟩
      · subst h9
        have h_3 : ¬ (zi_in t 0 1) := h_3
        refine zr_if_eq (a := 0) (tgt := 39) X dX10_issue_22 (by decide) (by decide) (fun _ => ?_) (fun c9 => absurd c9 (by decide))
        refine lv_iconst (v := (-1)) X.1 X.2.1 dX10_issue_39 (by decide) ?_
        have e9 : sp_issue cn t nc q li u = ((-1), u) := (by unfold sp_issue; (repeat (first | refine (if_pos (by omega)).trans ?_ | refine (if_neg (by omega)).trans ?_)); first | rfl | exact congrArg (fun z => ((u 0 8, zs_two u cn t nc (u 1 0 + zs_most u cn t li) z (u 5 (zn cn))) : Int32 × zm_T)) (by first | exact if_pos (by omega) | exact if_neg (by omega)))
        exact zr_iret X hW dX10_issue_40 (Nat.le_refl _) (Nat.le_refl _) ⟨rfl, rfl, by rw [e9], by rw [e9]⟩
    · subst h9
      have h_2 : ¬ (zs_bk u cn) := h_2
      refine zr_if_eq (a := 0) (tgt := 39) X dX10_issue_13 (by decide) (by decide) (fun _ => ?_) (fun c9 => absurd c9 (by decide))
      refine lv_iconst (v := (-1)) X.1 X.2.1 dX10_issue_39 (by decide) ?_
      have e9 : sp_issue cn t nc q li u = ((-1), u) := (by unfold sp_issue; (repeat (first | refine (if_pos (by omega)).trans ?_ | refine (if_neg (by omega)).trans ?_)); first | rfl | exact congrArg (fun z => ((u 0 8, zs_two u cn t nc (u 1 0 + zs_most u cn t li) z (u 5 (zn cn))) : Int32 × zm_T)) (by first | exact if_pos (by omega) | exact if_neg (by omega)))
      exact zr_iret X hW dX10_issue_40 (Nat.le_refl _) (Nat.le_refl _) ⟨rfl, rfl, by rw [e9], by rw [e9]⟩
  · subst h9
    have h_1 : ¬ (zs_us cn) := h_1
    refine zr_if_eq (a := 0) (tgt := 39) X dX10_issue_5 (by decide) (by decide) (fun _ => ?_) (fun c9 => absurd c9 (by decide))
    refine lv_iconst (v := (-1)) X.1 X.2.1 dX10_issue_39 (by decide) ?_
    have e9 : sp_issue cn t nc q li u = ((-1), u) := (by unfold sp_issue; (repeat (first | refine (if_pos (by omega)).trans ?_ | refine (if_neg (by omega)).trans ?_)); first | rfl | exact congrArg (fun z => ((u 0 8, zs_two u cn t nc (u 1 0 + zs_most u cn t li) z (u 5 (zn cn))) : Int32 × zm_T)) (by first | exact if_pos (by omega) | exact if_neg (by omega)))
    exact zr_iret X hW dX10_issue_40 (Nat.le_refl _) (Nat.le_refl _) ⟨rfl, rfl, by rw [e9], by rw [e9]⟩

set_option maxHeartbeats 4000000 in
set_option maxRecDepth 100000 in
theorem c_X10_grant (l : Launch) (Y : zw_Y) (N0 : Nat) (ad : Nat → Nat) (sh : Nat → Option zw_Sh) (u g0 : zm_T) (hM : zm_S sh) (k cl t nc li : Int32) (hI : zm_I u) : zw_Met l Y N0 yX10_grant cX10_grant 9 (some .int) 3 78 0 0 ad sh (zm_mix u g0) [.ref (ad 0), .int k, .int cl, .int t, .int nc, .int li] (zp_S ad sh g0 (sp_grant k cl t nc li u)) := by
  refine zw_meth (by decide) (Nat.le_of_ble_eq_true rfl) ?_
  intro p e s m below meth c ls X hnm hl hW
  have hl : lv_has ls 9 [(0, .ref (ad 0)), (1, .int k), (2, .int cl), (3, .int t), (4, .int nc), (5, .int li)] := hl
  have hse := zI_se hI
  have hke := zI_ke hI
  have hs1 := zi_sub (u 0 8) 1 (by rw [show (1 : Int32).toInt = 1 from rfl]; omega)
  rw [show (1 : Int32).toInt = 1 from rfl] at hs1
  refine lv_iload_n X.1 X.2.1 dX10_grant_0 rfl (lv_at hl 3 rfl) ?_
  refine lv_iconst (v := 0) X.1 X.2.1 dX10_grant_1 (by decide) ?_
  refine lv_iconst (v := 1) X.1 X.2.1 dX10_grant_2 (by decide) ?_
  refine zr_callS (As := [.int t, .int 0, .int 1]) (rest := []) X hW hl.1 md_X10_in ms_X10_87 dX10_grant_3 rfl rfl (Nat.le_of_ble_eq_true rfl) ⟨Nat.le_of_ble_eq_true rfl, Nat.le_of_ble_eq_true rfl⟩ ⟨Nat.le_of_ble_eq_true rfl, Nat.le_of_ble_eq_true rfl⟩ (c_X10_in l Y N0 ad sh (zm_mix u g0) t 0 1) (fun v9 ad9 sh9 g9 H locs hp hW => ?_)
  rcases hp with ⟨rfl, rfl, rfl, ⟨h_1, h9⟩ | ⟨h_1, h9⟩⟩
  · subst h9
    have h_1 : zi_in t 0 1 := h_1
    refine zr_if_eq (a := 1) (tgt := 31) X dX10_grant_6 (by decide) (by decide) (fun c9 => absurd c9 (by decide)) (fun _ => ?_)
    refine lv_aload_n X.1 X.2.1 dX10_grant_9 rfl (lv_at hl 0 rfl) ?_
    refine lv_iload_n X.1 X.2.1 dX10_grant_10 rfl (lv_at hl 3 rfl) ?_
    refine zr_callV (As := [.int t]) (rest := []) X hW hl.1 md_X10_booked ms_X10_94 dX10_grant_11 (zm_s0 hM) rfl rfl rfl rfl (Nat.le_of_ble_eq_true rfl) ⟨Nat.le_of_ble_eq_true rfl, Nat.le_of_ble_eq_true rfl⟩ ⟨Nat.le_of_ble_eq_true rfl, Nat.le_of_ble_eq_true rfl⟩ (c_X10_booked l Y N0 ad sh u g0 hM t) (fun v9 ad9 sh9 g9 H locs hp hW => ?_)
    rcases hp with ⟨rfl, rfl, rfl, ⟨h_2, h9⟩ | ⟨h_2, h9⟩⟩
    · subst h9
      have h_2 : zs_bk u t := h_2
      refine zr_if_eq (a := 1) (tgt := 31) X dX10_grant_14 (by decide) (by decide) (fun c9 => absurd c9 (by decide)) (fun _ => ?_)
      refine lv_aload_n X.1 X.2.1 dX10_grant_17 rfl (lv_at hl 0 rfl) ?_
      refine lv_iconst (v := 0) X.1 X.2.1 dX10_grant_18 (by decide) ?_
      refine zr_callV (As := [.int 0]) (rest := []) X hW hl.1 md_X10_booked ms_X10_94 dX10_grant_19 (zm_s0 hM) rfl rfl rfl rfl (Nat.le_of_ble_eq_true rfl) ⟨Nat.le_of_ble_eq_true rfl, Nat.le_of_ble_eq_true rfl⟩ ⟨Nat.le_of_ble_eq_true rfl, Nat.le_of_ble_eq_true rfl⟩ (c_X10_booked l Y N0 ad sh u g0 hM 0) (fun v9 ad9 sh9 g9 H locs hp hW => ?_)
      rcases hp with ⟨rfl, rfl, rfl, ⟨h_3, h9⟩ | ⟨h_3, h9⟩⟩
      · subst h9
        have h_3 : zs_bk u 0 := h_3
        refine zr_if_eq (a := 1) (tgt := 31) X dX10_grant_22 (by decide) (by decide) (fun c9 => absurd c9 (by decide)) (fun _ => ?_)
        refine lv_iload X.1 X.2.1 dX10_grant_25 (lv_at hl 5 rfl) ?_
        refine lv_iconst (v := 1) X.1 X.2.1 dX10_grant_27 (by decide) ?_
        refine zr_icmp_ge (a := (li).toInt) (b := 1) (tgt := 33) X dX10_grant_28 (by decide) rfl (by decide) (fun c_4 => ?_) (fun c_4 => ?_)
        · refine lv_aload_n X.1 X.2.1 dX10_grant_33 rfl (lv_at hl 0 rfl) ?_
          refine lv_aload_n X.1 X.2.1 dX10_grant_34 rfl (lv_at hl 0 rfl) ?_
          refine zr_get (v := .ref (ad 5)) X hW fs_X10_20_9 dX10_grant_35 (zm_s0 hM) rfl rfl rfl ?_
          refine lv_iconst (v := 0) X.1 X.2.1 dX10_grant_38 (by decide) ?_
          refine zr_iald (v := u 5 0) X hW dX10_grant_39 (zm_s5 hM) rfl rfl (zi_vp (by decide)) rfl ?_
          refine lv_iload_n X.1 X.2.1 dX10_grant_40 rfl (lv_at hl 1 rfl) ?_
          refine lv_iconst (v := 2) X.1 X.2.1 dX10_grant_41 (by decide) ?_
          refine zr_callV (As := [.int (u 5 0), .int k, .int 2]) (rest := []) X hW hl.1 md_X10_opens ms_X10_126 dX10_grant_42 (zm_s0 hM) rfl rfl rfl rfl (Nat.le_of_ble_eq_true rfl) ⟨Nat.le_of_ble_eq_true rfl, Nat.le_of_ble_eq_true rfl⟩ ⟨Nat.le_of_ble_eq_true rfl, Nat.le_of_ble_eq_true rfl⟩ (c_X10_opens l Y N0 ad sh u g0 hM (u 5 0) k 2 hI) (fun v9 ad9 sh9 g9 H locs hp hW => ?_)
          rcases hp with ⟨rfl, rfl, rfl, ⟨h_5, h9⟩ | ⟨h_5, h9⟩⟩
          · subst h9
            have h_5 : zs_op u (u 5 0) k 2 := h_5
            refine zr_if_ne (a := 1) (tgt := 51) X dX10_grant_45 (by decide) (by decide) (fun _ => ?_) (fun c9 => absurd c9 (by decide))
            refine lv_aload_n X.1 X.2.1 dX10_grant_51 rfl (lv_at hl 0 rfl) ?_
            refine lv_aload_n X.1 X.2.1 dX10_grant_52 rfl (lv_at hl 0 rfl) ?_
            refine zr_get (v := .ref (ad 12)) X hW fs_X10_38_9 dX10_grant_53 (zm_s0 hM) rfl rfl rfl ?_
            refine lv_iload_n X.1 X.2.1 dX10_grant_56 rfl (lv_at hl 1 rfl) ?_
            refine zr_iald (v := u 12 (zn k)) X hW dX10_grant_57 (zm_s12 hM) rfl rfl (zi_vp (by omega)) rfl ?_
            refine lv_iload_n X.1 X.2.1 dX10_grant_58 rfl (lv_at hl 2 rfl) ?_
            refine lv_iconst (v := 4) X.1 X.2.1 dX10_grant_59 (by decide) ?_
            refine zr_callV (As := [.int (u 12 (zn k)), .int cl, .int 4]) (rest := []) X hW hl.1 md_X10_opens ms_X10_126 dX10_grant_60 (zm_s0 hM) rfl rfl rfl rfl (Nat.le_of_ble_eq_true rfl) ⟨Nat.le_of_ble_eq_true rfl, Nat.le_of_ble_eq_true rfl⟩ ⟨Nat.le_of_ble_eq_true rfl, Nat.le_of_ble_eq_true rfl⟩ (c_X10_opens l Y N0 ad sh u g0 hM (u 12 (zn k)) cl 4 hI) (fun v9 ad9 sh9 g9 H locs hp hW => ?_)
            rcases hp with ⟨rfl, rfl, rfl, ⟨h_6, h9⟩ | ⟨h_6, h9⟩⟩
            · subst h9
              have h_6 : zs_op u (u 12 (zn k)) cl 4 := h_6
              refine zr_if_ne (a := 1) (tgt := 69) X dX10_grant_63 (by decide) (by decide) (fun _ => ?_) (fun c9 => absurd c9 (by decide))
              refine lv_aload_n X.1 X.2.1 dX10_grant_69 rfl (lv_at hl 0 rfl) ?_
              refine zr_get (v := .ref (ad 11)) X hW fs_X10_35_9 dX10_grant_70 (zm_s0 hM) rfl rfl rfl ?_
              refine lv_iload_n X.1 X.2.1 dX10_grant_73 rfl (lv_at hl 1 rfl) ?_
              refine zr_iald (v := u 11 (zn k)) X hW dX10_grant_74 (zm_s11 hM) rfl rfl (zi_vp (by omega)) rfl ?_
              refine lv_istore (lv' := [(6, .int (u 11 (zn k))), (0, .ref (ad 0)), (1, .int k), (2, .int cl), (3, .int t), (4, .int nc), (5, .int li)]) X.1 X.2.1 dX10_grant_75 hl (by decide) rfl (fun ls hl => ?_)
              refine lv_aload_n X.1 X.2.1 dX10_grant_77 rfl (lv_at hl 1 rfl) ?_
              refine zr_get (v := .ref (ad 11)) X hW fs_X10_35_9 dX10_grant_78 (zm_s0 hM) rfl rfl rfl ?_
              refine lv_iload_n X.1 X.2.1 dX10_grant_81 rfl (lv_at hl 3 rfl) ?_
              refine zr_iald (v := u 11 (zn cl)) X hW dX10_grant_82 (zm_s11 hM) rfl rfl (zi_vp (by omega)) rfl ?_
              refine lv_iload X.1 X.2.1 dX10_grant_83 (lv_at hl 0 rfl) ?_
              refine zr_icmp_ne (a := (u 11 (zn cl)).toInt) (b := (u 11 (zn k)).toInt) (tgt := 115) X dX10_grant_85 (by decide) rfl rfl (fun c_7 => ?_) (fun c_7 => ?_)
              · refine lv_bipush (v := (-3)) X.1 X.2.1 dX10_grant_115 (by decide) ?_
                have e9 : sp_grant k cl t nc li u = ((-3), u) := (by unfold sp_grant; (repeat (first | refine (if_pos (by omega)).trans ?_ | refine (if_neg (by omega)).trans ?_)); first | rfl | (have h1 : t.toInt = 1 := (by omega); have hg : zs_gend u k t li = zs_mn (u 1 0 + zs_most u (u 11 (zn k)) t li) (u 14 (zn k)) := congrArg (zs_mn _) (if_pos h1); rw [if_pos h1, hg] <;> rfl) | (have h1 : ¬ t.toInt = 1 := (by omega); have hg : zs_gend u k t li = zs_mn (u 1 0 + zs_most u (u 11 (zn k)) t li) (u 15 (zn k)) := congrArg (zs_mn _) (if_neg h1); rw [if_neg h1, hg] <;> rfl) | (exfalso; omega))
                exact zr_iret X hW dX10_grant_117 (Nat.le_refl _) (Nat.le_refl _) ⟨rfl, rfl, by rw [e9], by rw [e9]⟩
              · refine lv_aload_n X.1 X.2.1 dX10_grant_88 rfl (lv_at hl 1 rfl) ?_
                refine zr_get (v := .ref (ad 16)) X hW fs_X10_50_9 dX10_grant_89 (zm_s0 hM) rfl rfl rfl ?_
                refine lv_iload_n X.1 X.2.1 dX10_grant_92 rfl (lv_at hl 3 rfl) ?_
                refine zr_iald (v := u 16 (zn cl)) X hW dX10_grant_93 (zm_s16 hM) rfl rfl (zi_vp (by omega)) rfl ?_
                refine zr_if_ne (a := (u 16 (zn cl)).toInt) (tgt := 115) X dX10_grant_94 (by decide) rfl (fun c_8 => ?_) (fun c_8 => ?_)
                · refine lv_bipush (v := (-3)) X.1 X.2.1 dX10_grant_115 (by decide) ?_
                  have e9 : sp_grant k cl t nc li u = ((-3), u) := (by unfold sp_grant; (repeat (first | refine (if_pos (by omega)).trans ?_ | refine (if_neg (by omega)).trans ?_)); first | rfl | (have h1 : t.toInt = 1 := (by omega); have hg : zs_gend u k t li = zs_mn (u 1 0 + zs_most u (u 11 (zn k)) t li) (u 14 (zn k)) := congrArg (zs_mn _) (if_pos h1); rw [if_pos h1, hg] <;> rfl) | (have h1 : ¬ t.toInt = 1 := (by omega); have hg : zs_gend u k t li = zs_mn (u 1 0 + zs_most u (u 11 (zn k)) t li) (u 15 (zn k)) := congrArg (zs_mn _) (if_neg h1); rw [if_neg h1, hg] <;> rfl) | (exfalso; omega))
                  exact zr_iret X hW dX10_grant_117 (Nat.le_refl _) (Nat.le_refl _) ⟨rfl, rfl, by rw [e9], by rw [e9]⟩
                · refine lv_aload_n X.1 X.2.1 dX10_grant_97 rfl (lv_at hl 1 rfl) ?_
                  refine lv_iload X.1 X.2.1 dX10_grant_98 (lv_at hl 0 rfl) ?_
                  refine zr_callV (As := [.int (u 11 (zn k))]) (rest := []) X hW hl.1 md_X10_user ms_X10_112 dX10_grant_100 (zm_s0 hM) rfl rfl rfl rfl (Nat.le_of_ble_eq_true rfl) ⟨Nat.le_of_ble_eq_true rfl, Nat.le_of_ble_eq_true rfl⟩ ⟨Nat.le_of_ble_eq_true rfl, Nat.le_of_ble_eq_true rfl⟩ (c_X10_user l Y N0 ad sh u g0 hM (u 11 (zn k))) (fun v9 ad9 sh9 g9 H locs hp hW => ?_)
                  rcases hp with ⟨rfl, rfl, rfl, ⟨h_9, h9⟩ | ⟨h_9, h9⟩⟩
                  · subst h9
                    have h_9 : zs_us (u 11 (zn k)) := h_9
                    refine zr_if_eq (a := 1) (tgt := 115) X dX10_grant_103 (by decide) (by decide) (fun c9 => absurd c9 (by decide)) (fun _ => ?_)
                    refine lv_aload_n X.1 X.2.1 dX10_grant_106 rfl (lv_at hl 1 rfl) ?_
                    refine lv_iload X.1 X.2.1 dX10_grant_107 (lv_at hl 0 rfl) ?_
                    refine zr_callV (As := [.int (u 11 (zn k))]) (rest := []) X hW hl.1 md_X10_booked ms_X10_94 dX10_grant_109 (zm_s0 hM) rfl rfl rfl rfl (Nat.le_of_ble_eq_true rfl) ⟨Nat.le_of_ble_eq_true rfl, Nat.le_of_ble_eq_true rfl⟩ ⟨Nat.le_of_ble_eq_true rfl, Nat.le_of_ble_eq_true rfl⟩ (c_X10_booked l Y N0 ad sh u g0 hM (u 11 (zn k))) (fun v9 ad9 sh9 g9 H locs hp hW => ?_)
                    rcases hp with ⟨rfl, rfl, rfl, ⟨h_10, h9⟩ | ⟨h_10, h9⟩⟩
                    · subst h9
                      have h_10 : zs_bk u (u 11 (zn k)) := h_10
                      refine zr_if_ne (a := 1) (tgt := 118) X dX10_grant_112 (by decide) (by decide) (fun _ => ?_) (fun c9 => absurd c9 (by decide))
                      refine lv_aload_n X.1 X.2.1 dX10_grant_118 rfl (lv_at hl 1 rfl) ?_
                      refine lv_aload_n X.1 X.2.1 dX10_grant_119 rfl (lv_at hl 1 rfl) ?_
                      refine zr_get (v := .ref (ad 13)) X hW fs_X10_41_9 dX10_grant_120 (zm_s0 hM) rfl rfl rfl ?_
                      refine lv_iload_n X.1 X.2.1 dX10_grant_123 rfl (lv_at hl 3 rfl) ?_
                      refine zr_iald (v := u 13 (zn cl)) X hW dX10_grant_124 (zm_s13 hM) rfl rfl (zi_vp (by omega)) rfl ?_
                      refine lv_aload_n X.1 X.2.1 dX10_grant_125 rfl (lv_at hl 1 rfl) ?_
                      refine zr_get (v := .ref (ad 1)) X hW fs_X10_7_9 dX10_grant_126 (zm_s0 hM) rfl rfl rfl ?_
                      refine lv_iconst (v := 0) X.1 X.2.1 dX10_grant_129 (by decide) ?_
                      refine zr_iald (v := u 1 0) X hW dX10_grant_130 (zm_s1 hM) rfl rfl (zi_vp (by decide)) rfl ?_
                      refine zr_callV (As := [.int (u 13 (zn cl)), .int (u 1 0)]) (rest := []) X hW hl.1 md_X10_near ms_X10_137 dX10_grant_131 (zm_s0 hM) rfl rfl rfl rfl (Nat.le_of_ble_eq_true rfl) ⟨Nat.le_of_ble_eq_true rfl, Nat.le_of_ble_eq_true rfl⟩ ⟨Nat.le_of_ble_eq_true rfl, Nat.le_of_ble_eq_true rfl⟩ (c_X10_near l Y N0 ad sh u g0 hM (u 13 (zn cl)) (u 1 0) hI) (fun v9 ad9 sh9 g9 H locs hp hW => ?_)
                      rcases hp with ⟨rfl, rfl, rfl, ⟨h_11, h9⟩ | ⟨h_11, h9⟩⟩
                      · subst h9
                        have h_11 : zs_nr u (u 13 (zn cl)) (u 1 0) := h_11
                        refine zr_if_eq (a := 1) (tgt := 152) X dX10_grant_134 (by decide) (by decide) (fun c9 => absurd c9 (by decide)) (fun _ => ?_)
                        refine lv_aload_n X.1 X.2.1 dX10_grant_137 rfl (lv_at hl 1 rfl) ?_
                        refine zr_get (v := .ref (ad 1)) X hW fs_X10_7_9 dX10_grant_138 (zm_s0 hM) rfl rfl rfl ?_
                        refine lv_iconst (v := 0) X.1 X.2.1 dX10_grant_141 (by decide) ?_
                        refine zr_iald (v := u 1 0) X hW dX10_grant_142 (zm_s1 hM) rfl rfl (zi_vp (by decide)) rfl ?_
                        refine lv_aload_n X.1 X.2.1 dX10_grant_143 rfl (lv_at hl 1 rfl) ?_
                        refine zr_get (v := .ref (ad 14)) X hW fs_X10_44_9 dX10_grant_144 (zm_s0 hM) rfl rfl rfl ?_
                        refine lv_iload_n X.1 X.2.1 dX10_grant_147 rfl (lv_at hl 2 rfl) ?_
                        refine zr_iald (v := u 14 (zn k)) X hW dX10_grant_148 (zm_s14 hM) rfl rfl (zi_vp (by omega)) rfl ?_
                        refine zr_icmp_le (a := (u 1 0).toInt) (b := (u 14 (zn k)).toInt) (tgt := 155) X dX10_grant_149 (by decide) rfl rfl (fun c_12 => ?_) (fun c_12 => ?_)
                        · refine lv_aload_n X.1 X.2.1 dX10_grant_155 rfl (lv_at hl 1 rfl) ?_
                          refine zr_get (v := .int (u 0 2)) X hW fs_X10_91_9 dX10_grant_156 (zm_s0 hM) rfl rfl rfl ?_
                          refine lv_sipush (v := 200) X.1 X.2.1 dX10_grant_159 (by decide) ?_
                          refine zr_icmp_ge (a := (u 0 2).toInt) (b := 200) (tgt := 175) X dX10_grant_162 (by decide) rfl (by decide) (fun c_13 => ?_) (fun c_13 => ?_)
                          · refine lv_bipush (v := (-7)) X.1 X.2.1 dX10_grant_175 (by decide) ?_
                            have e9 : sp_grant k cl t nc li u = ((-7), u) := (by unfold sp_grant; (repeat (first | refine (if_pos (by omega)).trans ?_ | refine (if_neg (by omega)).trans ?_)); first | rfl | (have h1 : t.toInt = 1 := (by omega); have hg : zs_gend u k t li = zs_mn (u 1 0 + zs_most u (u 11 (zn k)) t li) (u 14 (zn k)) := congrArg (zs_mn _) (if_pos h1); rw [if_pos h1, hg] <;> rfl) | (have h1 : ¬ t.toInt = 1 := (by omega); have hg : zs_gend u k t li = zs_mn (u 1 0 + zs_most u (u 11 (zn k)) t li) (u 15 (zn k)) := congrArg (zs_mn _) (if_neg h1); rw [if_neg h1, hg] <;> rfl) | (exfalso; omega))
                            exact zr_iret X hW dX10_grant_177 (Nat.le_refl _) (Nat.le_refl _) ⟨rfl, rfl, by rw [e9], by rw [e9]⟩
                          · refine lv_aload_n X.1 X.2.1 dX10_grant_165 rfl (lv_at hl 1 rfl) ?_
                            refine zr_get (v := .int (u 0 8)) X hW fs_X10_102_9 dX10_grant_166 (zm_s0 hM) rfl rfl rfl ?_
                            refine lv_sipush (v := 148) X.1 X.2.1 dX10_grant_169 (by decide) ?_
                            refine zr_icmp_le (a := (u 0 8).toInt) (b := 148) (tgt := 178) X dX10_grant_172 (by decide) rfl (by decide) (fun c_14 => ?_) (fun c_14 => ?_)
                            · refine lv_iload X.1 X.2.1 dX10_grant_178 (lv_at hl 6 rfl) ?_
                              refine lv_aload_n X.1 X.2.1 dX10_grant_180 rfl (lv_at hl 1 rfl) ?_
                              refine zr_get (v := .ref (ad 6)) X hW fs_X10_23_9 dX10_grant_181 (zm_s0 hM) rfl rfl rfl ?_
                              refine lv_iload X.1 X.2.1 dX10_grant_184 (lv_at hl 0 rfl) ?_
                              refine zr_iald (v := u 6 (zn (u 11 (zn k)))) X hW dX10_grant_186 (zm_s6 hM) rfl rfl (zi_vp (by omega)) rfl ?_
                              refine zr_callS (As := [.int li, .int (u 6 (zn (u 11 (zn k))))]) (rest := []) X hW hl.1 md_X10_least ms_X10_141 dX10_grant_187 rfl rfl (Nat.le_of_ble_eq_true rfl) ⟨Nat.le_of_ble_eq_true rfl, Nat.le_of_ble_eq_true rfl⟩ ⟨Nat.le_of_ble_eq_true rfl, Nat.le_of_ble_eq_true rfl⟩ (c_X10_least l Y N0 ad sh (zm_mix u g0) li (u 6 (zn (u 11 (zn k))))) (fun v9 ad9 sh9 g9 H locs hp hW => ?_)
                              obtain ⟨rfl, rfl, rfl, _, rfl, rfl⟩ := hp
                              refine lv_aload_n X.1 X.2.1 dX10_grant_190 rfl (lv_at hl 1 rfl) ?_
                              refine zr_get (v := .ref (ad 6)) X hW fs_X10_23_9 dX10_grant_191 (zm_s0 hM) rfl rfl rfl ?_
                              refine lv_iload_n X.1 X.2.1 dX10_grant_194 rfl (lv_at hl 4 rfl) ?_
                              refine zr_iald (v := u 6 (zn t)) X hW dX10_grant_195 (zm_s6 hM) rfl rfl (zi_vp (by omega)) rfl ?_
                              refine zr_callS (As := [.int (zs_mn li (u 6 (zn (u 11 (zn k))))), .int (u 6 (zn t))]) (rest := []) X hW hl.1 md_X10_least ms_X10_141 dX10_grant_196 rfl rfl (Nat.le_of_ble_eq_true rfl) ⟨Nat.le_of_ble_eq_true rfl, Nat.le_of_ble_eq_true rfl⟩ ⟨Nat.le_of_ble_eq_true rfl, Nat.le_of_ble_eq_true rfl⟩ (c_X10_least l Y N0 ad sh (zm_mix u g0) (zs_mn li (u 6 (zn (u 11 (zn k))))) (u 6 (zn t))) (fun v9 ad9 sh9 g9 H locs hp hW => ?_)
                              obtain ⟨rfl, rfl, rfl, _, rfl, rfl⟩ := hp
                              refine lv_istore (lv' := [(7, .int (zs_mn (zs_mn li (u 6 (zn (u 11 (zn k))))) (u 6 (zn t)))), (6, .int (u 11 (zn k))), (0, .ref (ad 0)), (1, .int k), (2, .int cl), (3, .int t), (4, .int nc), (5, .int li)]) X.1 X.2.1 dX10_grant_199 hl (by decide) rfl (fun ls hl => ?_)
                              refine lv_aload_n X.1 X.2.1 dX10_grant_201 rfl (lv_at hl 2 rfl) ?_
                              refine zr_get (v := .ref (ad 1)) X hW fs_X10_7_9 dX10_grant_202 (zm_s0 hM) rfl rfl rfl ?_
                              refine lv_iconst (v := 0) X.1 X.2.1 dX10_grant_205 (by decide) ?_
                              refine zr_iald (v := u 1 0) X hW dX10_grant_206 (zm_s1 hM) rfl rfl (zi_vp (by decide)) rfl ?_
                              refine lv_iload X.1 X.2.1 dX10_grant_207 (lv_at hl 0 rfl) ?_
                              refine lv_iadd X.1 X.2.1 dX10_grant_209 ?_
                              refine lv_iload_n X.1 X.2.1 dX10_grant_210 rfl (lv_at hl 5 rfl) ?_
                              refine lv_iconst (v := 1) X.1 X.2.1 dX10_grant_211 (by decide) ?_
                              refine zr_icmp_ne (a := (t).toInt) (b := 1) (tgt := 224) X dX10_grant_212 (by decide) rfl (by decide) (fun c_19 => ?_) (fun c_19 => ?_)
                              · refine lv_aload_n X.1 X.2.1 dX10_grant_224 rfl (lv_at hl 2 rfl) ?_
                                refine zr_get (v := .ref (ad 15)) X hW fs_X10_47_9 dX10_grant_225 (zm_s0 hM) rfl rfl rfl ?_
                                refine lv_iload_n X.1 X.2.1 dX10_grant_228 rfl (lv_at hl 3 rfl) ?_
                                refine zr_iald (v := u 15 (zn k)) X hW dX10_grant_229 (zm_s15 hM) rfl rfl (zi_vp (by omega)) rfl ?_
                                refine zr_callS (As := [.int ((u 1 0) + (zs_mn (zs_mn li (u 6 (zn (u 11 (zn k))))) (u 6 (zn t)))), .int (u 15 (zn k))]) (rest := []) X hW hl.1 md_X10_least ms_X10_141 dX10_grant_230 rfl rfl (Nat.le_of_ble_eq_true rfl) ⟨Nat.le_of_ble_eq_true rfl, Nat.le_of_ble_eq_true rfl⟩ ⟨Nat.le_of_ble_eq_true rfl, Nat.le_of_ble_eq_true rfl⟩ (c_X10_least l Y N0 ad sh (zm_mix u g0) ((u 1 0) + (zs_mn (zs_mn li (u 6 (zn (u 11 (zn k))))) (u 6 (zn t)))) (u 15 (zn k))) (fun v9 ad9 sh9 g9 H locs hp hW => ?_)
                                obtain ⟨rfl, rfl, rfl, _, rfl, rfl⟩ := hp
                                refine lv_istore (lv' := [(8, .int (zs_mn ((u 1 0) + (zs_mn (zs_mn li (u 6 (zn (u 11 (zn k))))) (u 6 (zn t)))) (u 15 (zn k)))), (7, .int (zs_mn (zs_mn li (u 6 (zn (u 11 (zn k))))) (u 6 (zn t)))), (6, .int (u 11 (zn k))), (0, .ref (ad 0)), (1, .int k), (2, .int cl), (3, .int t), (4, .int nc), (5, .int li)]) X.1 X.2.1 dX10_grant_233 hl (by decide) rfl (fun ls hl => ?_)
                                refine lv_aload_n X.1 X.2.1 dX10_grant_235 rfl (lv_at hl 3 rfl) ?_
                                refine lv_iload X.1 X.2.1 dX10_grant_236 (lv_at hl 2 rfl) ?_
                                refine lv_iload_n X.1 X.2.1 dX10_grant_238 rfl (lv_at hl 6 rfl) ?_
                                refine lv_iload X.1 X.2.1 dX10_grant_239 (lv_at hl 7 rfl) ?_
                                refine lv_iload X.1 X.2.1 dX10_grant_241 (lv_at hl 0 rfl) ?_
                                refine lv_iload_n X.1 X.2.1 dX10_grant_243 rfl (lv_at hl 6 rfl) ?_
                                refine lv_iconst (v := 1) X.1 X.2.1 dX10_grant_244 (by decide) ?_
                                refine zr_icmp_ne (a := (t).toInt) (b := 1) (tgt := 253) X dX10_grant_245 (by decide) rfl (by decide) (fun _ => ?_) (fun c9 => absurd c9 (by omega))
                                refine lv_aload_n X.1 X.2.1 dX10_grant_253 rfl (lv_at hl 3 rfl) ?_
                                refine zr_get (v := .ref (ad 15)) X hW fs_X10_47_9 dX10_grant_254 (zm_s0 hM) rfl rfl rfl ?_
                                refine lv_iload_n X.1 X.2.1 dX10_grant_257 rfl (lv_at hl 4 rfl) ?_
                                refine zr_iald (v := u 15 (zn k)) X hW dX10_grant_258 (zm_s15 hM) rfl rfl (zi_vp (by omega)) rfl ?_
                                refine lv_aload_n X.1 X.2.1 dX10_grant_259 rfl (lv_at hl 3 rfl) ?_
                                refine zr_get (v := .ref (ad 12)) X hW fs_X10_38_9 dX10_grant_260 (zm_s0 hM) rfl rfl rfl ?_
                                refine lv_iload_n X.1 X.2.1 dX10_grant_263 rfl (lv_at hl 4 rfl) ?_
                                refine zr_iald (v := u 12 (zn k)) X hW dX10_grant_264 (zm_s12 hM) rfl rfl (zi_vp (by omega)) rfl ?_
                                refine zr_callV (As := [.int (u 11 (zn k)), .int t, .int nc, .int (zs_mn ((u 1 0) + (zs_mn (zs_mn li (u 6 (zn (u 11 (zn k))))) (u 6 (zn t)))) (u 15 (zn k))), .int (u 15 (zn k)), .int (u 12 (zn k))]) (rest := []) X hW hl.1 md_X10_bothSeals ms_X10_144 dX10_grant_265 (zm_s0 hM) rfl rfl rfl rfl (Nat.le_of_ble_eq_true rfl) ⟨Nat.le_of_ble_eq_true rfl, Nat.le_of_ble_eq_true rfl⟩ ⟨Nat.le_of_ble_eq_true rfl, Nat.le_of_ble_eq_true rfl⟩ (c_X10_bothSeals l Y N0 ad sh u g0 hM (u 11 (zn k)) t nc (zs_mn ((u 1 0) + (zs_mn (zs_mn li (u 6 (zn (u 11 (zn k))))) (u 6 (zn t)))) (u 15 (zn k))) (u 15 (zn k)) (u 12 (zn k)) (by omega) (by omega)) (fun v9 ad9 sh9 g9 H locs hp hW => ?_)
                                obtain ⟨rfl, rfl, _, rfl, rfl, rfl⟩ := hp
                                obtain ⟨u_23, hu_23⟩ : ∃ z : zm_T, z = zs_two u (u 11 (zn k)) t nc (zs_mn ((u 1 0) + (zs_mn (zs_mn li (u 6 (zn (u 11 (zn k))))) (u 6 (zn t)))) (u 15 (zn k))) (u 15 (zn k)) (u 12 (zn k)) := ⟨_, rfl⟩
                                rw [← hu_23] at hW
                                have e9 : sp_grant k cl t nc li u = (u 0 8, u_23) := (by subst hu_23; unfold sp_grant; (repeat (first | refine (if_pos (by omega)).trans ?_ | refine (if_neg (by omega)).trans ?_)); first | rfl | (have h1 : t.toInt = 1 := (by omega); have hg : zs_gend u k t li = zs_mn (u 1 0 + zs_most u (u 11 (zn k)) t li) (u 14 (zn k)) := congrArg (zs_mn _) (if_pos h1); rw [if_pos h1, hg] <;> rfl) | (have h1 : ¬ t.toInt = 1 := (by omega); have hg : zs_gend u k t li = zs_mn (u 1 0 + zs_most u (u 11 (zn k)) t li) (u 15 (zn k)) := congrArg (zs_mn _) (if_neg h1); rw [if_neg h1, hg] <;> rfl) | (exfalso; omega))
                                exact zr_iret X hW dX10_grant_268 (Nat.le_refl _) (Nat.le_refl _) ⟨rfl, rfl, by rw [e9], by rw [e9]⟩
                              · refine lv_aload_n X.1 X.2.1 dX10_grant_215 rfl (lv_at hl 2 rfl) ?_
                                refine zr_get (v := .ref (ad 14)) X hW fs_X10_44_9 dX10_grant_216 (zm_s0 hM) rfl rfl rfl ?_
                                refine lv_iload_n X.1 X.2.1 dX10_grant_219 rfl (lv_at hl 3 rfl) ?_
                                refine zr_iald (v := u 14 (zn k)) X hW dX10_grant_220 (zm_s14 hM) rfl rfl (zi_vp (by omega)) rfl ?_
                                refine lv_goto (tgt := 230) X.1 X.2.1 dX10_grant_221 (by decide) ?_
                                refine zr_callS (As := [.int ((u 1 0) + (zs_mn (zs_mn li (u 6 (zn (u 11 (zn k))))) (u 6 (zn t)))), .int (u 14 (zn k))]) (rest := []) X hW hl.1 md_X10_least ms_X10_141 dX10_grant_230 rfl rfl (Nat.le_of_ble_eq_true rfl) ⟨Nat.le_of_ble_eq_true rfl, Nat.le_of_ble_eq_true rfl⟩ ⟨Nat.le_of_ble_eq_true rfl, Nat.le_of_ble_eq_true rfl⟩ (c_X10_least l Y N0 ad sh (zm_mix u g0) ((u 1 0) + (zs_mn (zs_mn li (u 6 (zn (u 11 (zn k))))) (u 6 (zn t)))) (u 14 (zn k))) (fun v9 ad9 sh9 g9 H locs hp hW => ?_)
                                obtain ⟨rfl, rfl, rfl, _, rfl, rfl⟩ := hp
                                refine lv_istore (lv' := [(8, .int (zs_mn ((u 1 0) + (zs_mn (zs_mn li (u 6 (zn (u 11 (zn k))))) (u 6 (zn t)))) (u 14 (zn k)))), (7, .int (zs_mn (zs_mn li (u 6 (zn (u 11 (zn k))))) (u 6 (zn t)))), (6, .int (u 11 (zn k))), (0, .ref (ad 0)), (1, .int k), (2, .int cl), (3, .int t), (4, .int nc), (5, .int li)]) X.1 X.2.1 dX10_grant_233 hl (by decide) rfl (fun ls hl => ?_)
                                refine lv_aload_n X.1 X.2.1 dX10_grant_235 rfl (lv_at hl 3 rfl) ?_
                                refine lv_iload X.1 X.2.1 dX10_grant_236 (lv_at hl 2 rfl) ?_
                                refine lv_iload_n X.1 X.2.1 dX10_grant_238 rfl (lv_at hl 6 rfl) ?_
                                refine lv_iload X.1 X.2.1 dX10_grant_239 (lv_at hl 7 rfl) ?_
                                refine lv_iload X.1 X.2.1 dX10_grant_241 (lv_at hl 0 rfl) ?_
                                refine lv_iload_n X.1 X.2.1 dX10_grant_243 rfl (lv_at hl 6 rfl) ?_
                                refine lv_iconst (v := 1) X.1 X.2.1 dX10_grant_244 (by decide) ?_
                                refine zr_icmp_ne (a := (t).toInt) (b := 1) (tgt := 253) X dX10_grant_245 (by decide) rfl (by decide) (fun c9 => absurd c9 (by omega)) (fun _ => ?_)
                                refine lv_iload X.1 X.2.1 dX10_grant_248 (lv_at hl 0 rfl) ?_
                                refine lv_goto (tgt := 259) X.1 X.2.1 dX10_grant_250 (by decide) ?_
                                refine lv_aload_n X.1 X.2.1 dX10_grant_259 rfl (lv_at hl 3 rfl) ?_
                                refine zr_get (v := .ref (ad 12)) X hW fs_X10_38_9 dX10_grant_260 (zm_s0 hM) rfl rfl rfl ?_
                                refine lv_iload_n X.1 X.2.1 dX10_grant_263 rfl (lv_at hl 4 rfl) ?_
                                refine zr_iald (v := u 12 (zn k)) X hW dX10_grant_264 (zm_s12 hM) rfl rfl (zi_vp (by omega)) rfl ?_
                                refine zr_callV (As := [.int (u 11 (zn k)), .int t, .int nc, .int (zs_mn ((u 1 0) + (zs_mn (zs_mn li (u 6 (zn (u 11 (zn k))))) (u 6 (zn t)))) (u 14 (zn k))), .int (zs_mn ((u 1 0) + (zs_mn (zs_mn li (u 6 (zn (u 11 (zn k))))) (u 6 (zn t)))) (u 14 (zn k))), .int (u 12 (zn k))]) (rest := []) X hW hl.1 md_X10_bothSeals ms_X10_144 dX10_grant_265 (zm_s0 hM) rfl rfl rfl rfl (Nat.le_of_ble_eq_true rfl) ⟨Nat.le_of_ble_eq_true rfl, Nat.le_of_ble_eq_true rfl⟩ ⟨Nat.le_of_ble_eq_true rfl, Nat.le_of_ble_eq_true rfl⟩ (c_X10_bothSeals l Y N0 ad sh u g0 hM (u 11 (zn k)) t nc (zs_mn ((u 1 0) + (zs_mn (zs_mn li (u 6 (zn (u 11 (zn k))))) (u 6 (zn t)))) (u 14 (zn k))) (zs_mn ((u 1 0) + (zs_mn (zs_mn li (u 6 (zn (u 11 (zn k))))) (u 6 (zn t)))) (u 14 (zn k))) (u 12 (zn k)) (by omega) (by omega)) (fun v9 ad9 sh9 g9 H locs hp hW => ?_)
                                obtain ⟨rfl, rfl, _, rfl, rfl, rfl⟩ := hp
                                obtain ⟨u_28, hu_28⟩ : ∃ z : zm_T, z = zs_two u (u 11 (zn k)) t nc (zs_mn ((u 1 0) + (zs_mn (zs_mn li (u 6 (zn (u 11 (zn k))))) (u 6 (zn t)))) (u 14 (zn k))) (zs_mn ((u 1 0) + (zs_mn (zs_mn li (u 6 (zn (u 11 (zn k))))) (u 6 (zn t)))) (u 14 (zn k))) (u 12 (zn k)) := ⟨_, rfl⟩
                                rw [← hu_28] at hW
                                have e9 : sp_grant k cl t nc li u = (u 0 8, u_28) := (by subst hu_28; unfold sp_grant; (repeat (first | refine (if_pos (by omega)).trans ?_ | refine (if_neg (by omega)).trans ?_)); first | rfl | (have h1 : t.toInt = 1 := (by omega); have hg : zs_gend u k t li = zs_mn (u 1 0 + zs_most u (u 11 (zn k)) t li) (u 14 (zn k)) := congrArg (zs_mn _) (if_pos h1); rw [if_pos h1, hg] <;> rfl) | (have h1 : ¬ t.toInt = 1 := (by omega); have hg : zs_gend u k t li = zs_mn (u 1 0 + zs_most u (u 11 (zn k)) t li) (u 15 (zn k)) := congrArg (zs_mn _) (if_neg h1); rw [if_neg h1, hg] <;> rfl) | (exfalso; omega))
                                exact zr_iret X hW dX10_grant_268 (Nat.le_refl _) (Nat.le_refl _) ⟨rfl, rfl, by rw [e9], by rw [e9]⟩
                            · refine lv_bipush (v := (-7)) X.1 X.2.1 dX10_grant_175 (by decide) ?_
                              have e9 : sp_grant k cl t nc li u = ((-7), u) := (by unfold sp_grant; (repeat (first | refine (if_pos (by omega)).trans ?_ | refine (if_neg (by omega)).trans ?_)); first | rfl | (have h1 : t.toInt = 1 := (by omega); have hg : zs_gend u k t li = zs_mn (u 1 0 + zs_most u (u 11 (zn k)) t li) (u 14 (zn k)) := congrArg (zs_mn _) (if_pos h1); rw [if_pos h1, hg] <;> rfl) | (have h1 : ¬ t.toInt = 1 := (by omega); have hg : zs_gend u k t li = zs_mn (u 1 0 + zs_most u (u 11 (zn k)) t li) (u 15 (zn k)) := congrArg (zs_mn _) (if_neg h1); rw [if_neg h1, hg] <;> rfl) | (exfalso; omega))
                              exact zr_iret X hW dX10_grant_177 (Nat.le_refl _) (Nat.le_refl _) ⟨rfl, rfl, by rw [e9], by rw [e9]⟩
                        · refine lv_bipush (v := (-4)) X.1 X.2.1 dX10_grant_152 (by decide) ?_
                          have e9 : sp_grant k cl t nc li u = ((-4), u) := (by unfold sp_grant; (repeat (first | refine (if_pos (by omega)).trans ?_ | refine (if_neg (by omega)).trans ?_)); first | rfl | (have h1 : t.toInt = 1 := (by omega); have hg : zs_gend u k t li = zs_mn (u 1 0 + zs_most u (u 11 (zn k)) t li) (u 14 (zn k)) := congrArg (zs_mn _) (if_pos h1); rw [if_pos h1, hg] <;> rfl) | (have h1 : ¬ t.toInt = 1 := (by omega); have hg : zs_gend u k t li = zs_mn (u 1 0 + zs_most u (u 11 (zn k)) t li) (u 15 (zn k)) := congrArg (zs_mn _) (if_neg h1); rw [if_neg h1, hg] <;> rfl) | (exfalso; omega))
                          exact zr_iret X hW dX10_grant_154 (Nat.le_refl _) (Nat.le_refl _) ⟨rfl, rfl, by rw [e9], by rw [e9]⟩
                      · subst h9
                        have h_11 : ¬ (zs_nr u (u 13 (zn cl)) (u 1 0)) := h_11
                        refine zr_if_eq (a := 0) (tgt := 152) X dX10_grant_134 (by decide) (by decide) (fun _ => ?_) (fun c9 => absurd c9 (by decide))
                        refine lv_bipush (v := (-4)) X.1 X.2.1 dX10_grant_152 (by decide) ?_
                        have e9 : sp_grant k cl t nc li u = ((-4), u) := (by unfold sp_grant; (repeat (first | refine (if_pos (by omega)).trans ?_ | refine (if_neg (by omega)).trans ?_)); first | rfl | (have h1 : t.toInt = 1 := (by omega); have hg : zs_gend u k t li = zs_mn (u 1 0 + zs_most u (u 11 (zn k)) t li) (u 14 (zn k)) := congrArg (zs_mn _) (if_pos h1); rw [if_pos h1, hg] <;> rfl) | (have h1 : ¬ t.toInt = 1 := (by omega); have hg : zs_gend u k t li = zs_mn (u 1 0 + zs_most u (u 11 (zn k)) t li) (u 15 (zn k)) := congrArg (zs_mn _) (if_neg h1); rw [if_neg h1, hg] <;> rfl) | (exfalso; omega))
                        exact zr_iret X hW dX10_grant_154 (Nat.le_refl _) (Nat.le_refl _) ⟨rfl, rfl, by rw [e9], by rw [e9]⟩
                    · subst h9
                      have h_10 : ¬ (zs_bk u (u 11 (zn k))) := h_10
                      refine zr_if_ne (a := 0) (tgt := 118) X dX10_grant_112 (by decide) (by decide) (fun c9 => absurd c9 (by decide)) (fun _ => ?_)
                      refine lv_bipush (v := (-3)) X.1 X.2.1 dX10_grant_115 (by decide) ?_
                      have e9 : sp_grant k cl t nc li u = ((-3), u) := (by unfold sp_grant; (repeat (first | refine (if_pos (by omega)).trans ?_ | refine (if_neg (by omega)).trans ?_)); first | rfl | (have h1 : t.toInt = 1 := (by omega); have hg : zs_gend u k t li = zs_mn (u 1 0 + zs_most u (u 11 (zn k)) t li) (u 14 (zn k)) := congrArg (zs_mn _) (if_pos h1); rw [if_pos h1, hg] <;> rfl) | (have h1 : ¬ t.toInt = 1 := (by omega); have hg : zs_gend u k t li = zs_mn (u 1 0 + zs_most u (u 11 (zn k)) t li) (u 15 (zn k)) := congrArg (zs_mn _) (if_neg h1); rw [if_neg h1, hg] <;> rfl) | (exfalso; omega))
                      exact zr_iret X hW dX10_grant_117 (Nat.le_refl _) (Nat.le_refl _) ⟨rfl, rfl, by rw [e9], by rw [e9]⟩
                  · subst h9
                    have h_9 : ¬ (zs_us (u 11 (zn k))) := h_9
                    refine zr_if_eq (a := 0) (tgt := 115) X dX10_grant_103 (by decide) (by decide) (fun _ => ?_) (fun c9 => absurd c9 (by decide))
                    refine lv_bipush (v := (-3)) X.1 X.2.1 dX10_grant_115 (by decide) ?_
                    have e9 : sp_grant k cl t nc li u = ((-3), u) := (by unfold sp_grant; (repeat (first | refine (if_pos (by omega)).trans ?_ | refine (if_neg (by omega)).trans ?_)); first | rfl | (have h1 : t.toInt = 1 := (by omega); have hg : zs_gend u k t li = zs_mn (u 1 0 + zs_most u (u 11 (zn k)) t li) (u 14 (zn k)) := congrArg (zs_mn _) (if_pos h1); rw [if_pos h1, hg] <;> rfl) | (have h1 : ¬ t.toInt = 1 := (by omega); have hg : zs_gend u k t li = zs_mn (u 1 0 + zs_most u (u 11 (zn k)) t li) (u 15 (zn k)) := congrArg (zs_mn _) (if_neg h1); rw [if_neg h1, hg] <;> rfl) | (exfalso; omega))
                    exact zr_iret X hW dX10_grant_117 (Nat.le_refl _) (Nat.le_refl _) ⟨rfl, rfl, by rw [e9], by rw [e9]⟩
            · subst h9
              have h_6 : ¬ (zs_op u (u 12 (zn k)) cl 4) := h_6
              refine zr_if_ne (a := 0) (tgt := 69) X dX10_grant_63 (by decide) (by decide) (fun c9 => absurd c9 (by decide)) (fun _ => ?_)
              refine lv_bipush (v := (-2)) X.1 X.2.1 dX10_grant_66 (by decide) ?_
              have e9 : sp_grant k cl t nc li u = ((-2), u) := (by unfold sp_grant; (repeat (first | refine (if_pos (by omega)).trans ?_ | refine (if_neg (by omega)).trans ?_)); first | rfl | (have h1 : t.toInt = 1 := (by omega); have hg : zs_gend u k t li = zs_mn (u 1 0 + zs_most u (u 11 (zn k)) t li) (u 14 (zn k)) := congrArg (zs_mn _) (if_pos h1); rw [if_pos h1, hg] <;> rfl) | (have h1 : ¬ t.toInt = 1 := (by omega); have hg : zs_gend u k t li = zs_mn (u 1 0 + zs_most u (u 11 (zn k)) t li) (u 15 (zn k)) := congrArg (zs_mn _) (if_neg h1); rw [if_neg h1, hg] <;> rfl) | (exfalso; omega))
              exact zr_iret X hW dX10_grant_68 (Nat.le_refl _) (Nat.le_refl _) ⟨rfl, rfl, by rw [e9], by rw [e9]⟩
          · subst h9
            have h_5 : ¬ (zs_op u (u 5 0) k 2) := h_5
            refine zr_if_ne (a := 0) (tgt := 51) X dX10_grant_45 (by decide) (by decide) (fun c9 => absurd c9 (by decide)) (fun _ => ?_)
            refine lv_bipush (v := (-2)) X.1 X.2.1 dX10_grant_48 (by decide) ?_
            have e9 : sp_grant k cl t nc li u = ((-2), u) := (by unfold sp_grant; (repeat (first | refine (if_pos (by omega)).trans ?_ | refine (if_neg (by omega)).trans ?_)); first | rfl | (have h1 : t.toInt = 1 := (by omega); have hg : zs_gend u k t li = zs_mn (u 1 0 + zs_most u (u 11 (zn k)) t li) (u 14 (zn k)) := congrArg (zs_mn _) (if_pos h1); rw [if_pos h1, hg] <;> rfl) | (have h1 : ¬ t.toInt = 1 := (by omega); have hg : zs_gend u k t li = zs_mn (u 1 0 + zs_most u (u 11 (zn k)) t li) (u 15 (zn k)) := congrArg (zs_mn _) (if_neg h1); rw [if_neg h1, hg] <;> rfl) | (exfalso; omega))
            exact zr_iret X hW dX10_grant_50 (Nat.le_refl _) (Nat.le_refl _) ⟨rfl, rfl, by rw [e9], by rw [e9]⟩
        · refine lv_iconst (v := (-1)) X.1 X.2.1 dX10_grant_31 (by decide) ?_
          have e9 : sp_grant k cl t nc li u = ((-1), u) := (by unfold sp_grant; (repeat (first | refine (if_pos (by omega)).trans ?_ | refine (if_neg (by omega)).trans ?_)); first | rfl | (have h1 : t.toInt = 1 := (by omega); have hg : zs_gend u k t li = zs_mn (u 1 0 + zs_most u (u 11 (zn k)) t li) (u 14 (zn k)) := congrArg (zs_mn _) (if_pos h1); rw [if_pos h1, hg] <;> rfl) | (have h1 : ¬ t.toInt = 1 := (by omega); have hg : zs_gend u k t li = zs_mn (u 1 0 + zs_most u (u 11 (zn k)) t li) (u 15 (zn k)) := congrArg (zs_mn _) (if_neg h1); rw [if_neg h1, hg] <;> rfl) | (exfalso; omega))
          exact zr_iret X hW dX10_grant_32 (Nat.le_refl _) (Nat.le_refl _) ⟨rfl, rfl, by rw [e9], by rw [e9]⟩
      · subst h9
        have h_3 : ¬ (zs_bk u 0) := h_3
        refine zr_if_eq (a := 0) (tgt := 31) X dX10_grant_22 (by decide) (by decide) (fun _ => ?_) (fun c9 => absurd c9 (by decide))
        refine lv_iconst (v := (-1)) X.1 X.2.1 dX10_grant_31 (by decide) ?_
        have e9 : sp_grant k cl t nc li u = ((-1), u) := (by unfold sp_grant; (repeat (first | refine (if_pos (by omega)).trans ?_ | refine (if_neg (by omega)).trans ?_)); first | rfl | (have h1 : t.toInt = 1 := (by omega); have hg : zs_gend u k t li = zs_mn (u 1 0 + zs_most u (u 11 (zn k)) t li) (u 14 (zn k)) := congrArg (zs_mn _) (if_pos h1); rw [if_pos h1, hg] <;> rfl) | (have h1 : ¬ t.toInt = 1 := (by omega); have hg : zs_gend u k t li = zs_mn (u 1 0 + zs_most u (u 11 (zn k)) t li) (u 15 (zn k)) := congrArg (zs_mn _) (if_neg h1); rw [if_neg h1, hg] <;> rfl) | (exfalso; omega))
        exact zr_iret X hW dX10_grant_32 (Nat.le_refl _) (Nat.le_refl _) ⟨rfl, rfl, by rw [e9], by rw [e9]⟩
    · subst h9
      have h_2 : ¬ (zs_bk u t) := h_2
      refine zr_if_eq (a := 0) (tgt := 31) X dX10_grant_14 (by decide) (by decide) (fun _ => ?_) (fun c9 => absurd c9 (by decide))
      refine lv_iconst (v := (-1)) X.1 X.2.1 dX10_grant_31 (by decide) ?_
      have e9 : sp_grant k cl t nc li u = ((-1), u) := (by unfold sp_grant; (repeat (first | refine (if_pos (by omega)).trans ?_ | refine (if_neg (by omega)).trans ?_)); first | rfl | (have h1 : t.toInt = 1 := (by omega); have hg : zs_gend u k t li = zs_mn (u 1 0 + zs_most u (u 11 (zn k)) t li) (u 14 (zn k)) := congrArg (zs_mn _) (if_pos h1); rw [if_pos h1, hg] <;> rfl) | (have h1 : ¬ t.toInt = 1 := (by omega); have hg : zs_gend u k t li = zs_mn (u 1 0 + zs_most u (u 11 (zn k)) t li) (u 15 (zn k)) := congrArg (zs_mn _) (if_neg h1); rw [if_neg h1, hg] <;> rfl) | (exfalso; omega))
      exact zr_iret X hW dX10_grant_32 (Nat.le_refl _) (Nat.le_refl _) ⟨rfl, rfl, by rw [e9], by rw [e9]⟩
  · subst h9
    have h_1 : ¬ (zi_in t 0 1) := h_1
    refine zr_if_eq (a := 0) (tgt := 31) X dX10_grant_6 (by decide) (by decide) (fun _ => ?_) (fun c9 => absurd c9 (by decide))
    refine lv_iconst (v := (-1)) X.1 X.2.1 dX10_grant_31 (by decide) ?_
    have e9 : sp_grant k cl t nc li u = ((-1), u) := (by unfold sp_grant; (repeat (first | refine (if_pos (by omega)).trans ?_ | refine (if_neg (by omega)).trans ?_)); first | rfl | (have h1 : t.toInt = 1 := (by omega); have hg : zs_gend u k t li = zs_mn (u 1 0 + zs_most u (u 11 (zn k)) t li) (u 14 (zn k)) := congrArg (zs_mn _) (if_pos h1); rw [if_pos h1, hg] <;> rfl) | (have h1 : ¬ t.toInt = 1 := (by omega); have hg : zs_gend u k t li = zs_mn (u 1 0 + zs_most u (u 11 (zn k)) t li) (u 15 (zn k)) := congrArg (zs_mn _) (if_neg h1); rw [if_neg h1, hg] <;> rfl) | (exfalso; omega))
    exact zr_iret X hW dX10_grant_32 (Nat.le_refl _) (Nat.le_refl _) ⟨rfl, rfl, by rw [e9], by rw [e9]⟩

set_option maxHeartbeats 4000000 in
set_option maxRecDepth 100000 in
theorem c_X10_forge (l : Launch) (Y : zw_Y) (N0 : Nat) (ad : Nat → Nat) (sh : Nat → Option zw_Sh) (u g0 : zm_T) (hM : zm_S sh) (key k cn a b : Int32) (hI : zm_I u) : zw_Met l Y N0 yX10_forge cX10_forge 7 (some .int) 2 51 0 0 ad sh (zm_mix u g0) [.ref (ad 0), .int key, .int k, .int cn, .int a, .int b] (zp_S ad sh g0 (sp_forge key k cn a b u)) := by
  refine zw_meth (by decide) (Nat.le_of_ble_eq_true rfl) ?_
  intro p e s m below meth c ls X hnm hl hW
  have hl : lv_has ls 7 [(0, .ref (ad 0)), (1, .int key), (2, .int k), (3, .int cn), (4, .int a), (5, .int b)] := hl
  have hse := zI_se hI
  have hke := zI_ke hI
  have hs1 := zi_sub (u 0 8) 1 (by rw [show (1 : Int32).toInt = 1 from rfl]; omega)
  rw [show (1 : Int32).toInt = 1 from rfl] at hs1
  refine lv_iload_n X.1 X.2.1 dX10_forge_0 rfl (lv_at hl 2 rfl) ?_
  refine lv_iconst (v := 1) X.1 X.2.1 dX10_forge_1 (by decide) ?_
  refine lv_iconst (v := 4) X.1 X.2.1 dX10_forge_2 (by decide) ?_
  refine zr_callS (As := [.int k, .int 1, .int 4]) (rest := []) X hW hl.1 md_X10_in ms_X10_87 dX10_forge_3 rfl rfl (Nat.le_of_ble_eq_true rfl) ⟨Nat.le_of_ble_eq_true rfl, Nat.le_of_ble_eq_true rfl⟩ ⟨Nat.le_of_ble_eq_true rfl, Nat.le_of_ble_eq_true rfl⟩ (c_X10_in l Y N0 ad sh (zm_mix u g0) k 1 4) (fun v9 ad9 sh9 g9 H locs hp hW => ?_)
  rcases hp with ⟨rfl, rfl, rfl, ⟨h_1, h9⟩ | ⟨h_1, h9⟩⟩
  · subst h9
    have h_1 : zi_in k 1 4 := h_1
    refine zr_if_eq (a := 1) (tgt := 23) X dX10_forge_6 (by decide) (by decide) (fun c9 => absurd c9 (by decide)) (fun _ => ?_)
    refine lv_iload_n X.1 X.2.1 dX10_forge_9 rfl (lv_at hl 2 rfl) ?_
    refine lv_iconst (v := 3) X.1 X.2.1 dX10_forge_10 (by decide) ?_
    refine zr_icmp_eq (a := (k).toInt) (b := 3) (tgt := 25) X dX10_forge_11 (by decide) rfl (by decide) (fun c_2 => ?_) (fun c_2 => ?_)
    · refine lv_aload_n X.1 X.2.1 dX10_forge_25 rfl (lv_at hl 0 rfl) ?_
      refine lv_iload_n X.1 X.2.1 dX10_forge_26 rfl (lv_at hl 1 rfl) ?_
      refine zr_callV (As := [.int key]) (rest := []) X hW hl.1 md_X10_isStolen ms_X10_159 dX10_forge_27 (zm_s0 hM) rfl rfl rfl rfl (Nat.le_of_ble_eq_true rfl) ⟨Nat.le_of_ble_eq_true rfl, Nat.le_of_ble_eq_true rfl⟩ ⟨Nat.le_of_ble_eq_true rfl, Nat.le_of_ble_eq_true rfl⟩ (c_X10_isStolen l Y N0 ad sh u g0 hM key hI) (fun v9 ad9 sh9 g9 H locs hp hW => ?_)
      rcases hp with ⟨rfl, rfl, rfl, ⟨h_3, h9⟩ | ⟨h_3, h9⟩⟩
      · subst h9
        have h_3 : zs_st u key := h_3
        refine zr_if_eq (a := 1) (tgt := 52) X dX10_forge_30 (by decide) (by decide) (fun c9 => absurd c9 (by decide)) (fun _ => ?_)
        refine lv_iload_n X.1 X.2.1 dX10_forge_33 rfl (lv_at hl 2 rfl) ?_
        refine lv_iconst (v := 2) X.1 X.2.1 dX10_forge_34 (by decide) ?_
        refine zr_icmp_eq (a := (k).toInt) (b := 2) (tgt := 43) X dX10_forge_35 (by decide) rfl (by decide) (fun c9 => absurd c9 (by omega)) (fun _ => ?_)
        refine lv_iload_n X.1 X.2.1 dX10_forge_38 rfl (lv_at hl 2 rfl) ?_
        refine lv_iconst (v := 3) X.1 X.2.1 dX10_forge_39 (by decide) ?_
        refine zr_icmp_ne (a := (k).toInt) (b := 3) (tgt := 55) X dX10_forge_40 (by decide) rfl (by decide) (fun c9 => absurd c9 (by omega)) (fun _ => ?_)
        refine lv_aload_n X.1 X.2.1 dX10_forge_43 rfl (lv_at hl 0 rfl) ?_
        refine lv_iload X.1 X.2.1 dX10_forge_44 (lv_at hl 4 rfl) ?_
        refine zr_callV (As := [.int a]) (rest := []) X hW hl.1 md_X10_isStolen ms_X10_159 dX10_forge_46 (zm_s0 hM) rfl rfl rfl rfl (Nat.le_of_ble_eq_true rfl) ⟨Nat.le_of_ble_eq_true rfl, Nat.le_of_ble_eq_true rfl⟩ ⟨Nat.le_of_ble_eq_true rfl, Nat.le_of_ble_eq_true rfl⟩ (c_X10_isStolen l Y N0 ad sh u g0 hM a hI) (fun v9 ad9 sh9 g9 H locs hp hW => ?_)
        rcases hp with ⟨rfl, rfl, rfl, ⟨h_4, h9⟩ | ⟨h_4, h9⟩⟩
        · subst h9
          have h_4 : zs_st u a := h_4
          refine zr_if_ne (a := 1) (tgt := 55) X dX10_forge_49 (by decide) (by decide) (fun _ => ?_) (fun c9 => absurd c9 (by decide))
          refine lv_aload_n X.1 X.2.1 dX10_forge_55 rfl (lv_at hl 0 rfl) ?_
          refine zr_get (v := .int (u 0 8)) X hW fs_X10_102_9 dX10_forge_56 (zm_s0 hM) rfl rfl rfl ?_
          refine lv_sipush (v := 150) X.1 X.2.1 dX10_forge_59 (by decide) ?_
          refine zr_icmp_lt (a := (u 0 8).toInt) (b := 150) (tgt := 68) X dX10_forge_62 (by decide) rfl (by decide) (fun c_5 => ?_) (fun c_5 => ?_)
          · refine lv_iload_n X.1 X.2.1 dX10_forge_68 rfl (lv_at hl 2 rfl) ?_
            refine lv_iconst (v := 1) X.1 X.2.1 dX10_forge_69 (by decide) ?_
            refine zr_icmp_ne (a := (k).toInt) (b := 1) (tgt := 82) X dX10_forge_70 (by decide) rfl (by decide) (fun _ => ?_) (fun c9 => absurd c9 (by omega))
            refine lv_iload_n X.1 X.2.1 dX10_forge_82 rfl (lv_at hl 2 rfl) ?_
            refine lv_iconst (v := 2) X.1 X.2.1 dX10_forge_83 (by decide) ?_
            refine zr_icmp_ne (a := (k).toInt) (b := 2) (tgt := 101) X dX10_forge_84 (by decide) rfl (by decide) (fun _ => ?_) (fun c9 => absurd c9 (by omega))
            refine lv_iload_n X.1 X.2.1 dX10_forge_101 rfl (lv_at hl 2 rfl) ?_
            refine lv_iconst (v := 3) X.1 X.2.1 dX10_forge_102 (by decide) ?_
            refine zr_icmp_ne (a := (k).toInt) (b := 3) (tgt := 119) X dX10_forge_103 (by decide) rfl (by decide) (fun c9 => absurd c9 (by omega)) (fun _ => ?_)
            refine lv_aload_n X.1 X.2.1 dX10_forge_106 rfl (lv_at hl 0 rfl) ?_
            refine lv_iload_n X.1 X.2.1 dX10_forge_107 rfl (lv_at hl 1 rfl) ?_
            refine lv_iload X.1 X.2.1 dX10_forge_108 (lv_at hl 4 rfl) ?_
            refine lv_iload X.1 X.2.1 dX10_forge_110 (lv_at hl 5 rfl) ?_
            refine lv_iconst (v := 1) X.1 X.2.1 dX10_forge_112 (by decide) ?_
            refine lv_ldc (v := 1000000) X.1 X.2.1 X.2.2.2.1 (X.2.2.2.2.1 _ (zt_in (zt_t4 80 rfl) rfl)) dX10_forge_113 ?_
            refine zr_callV (As := [.int key, .int a, .int b, .int 1, .int 1000000]) (rest := []) X hW hl.1 md_X10_makePart ms_X10_133 dX10_forge_115 (zm_s0 hM) rfl rfl rfl rfl (Nat.le_of_ble_eq_true rfl) ⟨Nat.le_of_ble_eq_true rfl, Nat.le_of_ble_eq_true rfl⟩ ⟨Nat.le_of_ble_eq_true rfl, Nat.le_of_ble_eq_true rfl⟩ (c_X10_makePart l Y N0 ad sh u g0 hM key a b 1 1000000 (by omega)) (fun v9 ad9 sh9 g9 H locs hp hW => ?_)
            obtain ⟨rfl, rfl, _, rfl, rfl, rfl⟩ := hp
            obtain ⟨u_7, hu_7⟩ : ∃ z : zm_T, z = zs_mk u (zs_v 3 key (-1) a b 1 1000000 0 0 0) := ⟨_, rfl⟩
            rw [← hu_7] at hW
            have e9 : sp_forge key k cn a b u = (u 0 8, u_7) := (by subst hu_7; unfold sp_forge; (repeat (first | refine (if_pos (by omega)).trans ?_ | refine (if_neg (by omega)).trans ?_)); first | rfl | (refine congrArg (fun z => ((u 0 8, zs_mk u z) : Int32 × zm_T)) ?_; (repeat (first | refine (if_pos (by omega)).trans ?_ | refine (if_neg (by omega)).trans ?_)); rfl) | (rw [zs_mk3 rfl]; refine congrArg (fun z => ((u 0 8, zs_mk u z) : Int32 × zm_T)) ?_; (repeat (first | refine (if_pos (by omega)).trans ?_ | refine (if_neg (by omega)).trans ?_)); rfl))
            exact zr_iret X hW dX10_forge_118 (Nat.le_refl _) (Nat.le_refl _) ⟨rfl, rfl, by rw [e9], by rw [e9]⟩
          · refine lv_bipush (v := (-7)) X.1 X.2.1 dX10_forge_65 (by decide) ?_
            have e9 : sp_forge key k cn a b u = ((-7), u) := (by unfold sp_forge; (repeat (first | refine (if_pos (by omega)).trans ?_ | refine (if_neg (by omega)).trans ?_)); first | rfl | (refine congrArg (fun z => ((u 0 8, zs_mk u z) : Int32 × zm_T)) ?_; (repeat (first | refine (if_pos (by omega)).trans ?_ | refine (if_neg (by omega)).trans ?_)); rfl) | (rw [zs_mk3 rfl]; refine congrArg (fun z => ((u 0 8, zs_mk u z) : Int32 × zm_T)) ?_; (repeat (first | refine (if_pos (by omega)).trans ?_ | refine (if_neg (by omega)).trans ?_)); rfl))
            exact zr_iret X hW dX10_forge_67 (Nat.le_refl _) (Nat.le_refl _) ⟨rfl, rfl, by rw [e9], by rw [e9]⟩
        · subst h9
          have h_4 : ¬ (zs_st u a) := h_4
          refine zr_if_ne (a := 0) (tgt := 55) X dX10_forge_49 (by decide) (by decide) (fun c9 => absurd c9 (by decide)) (fun _ => ?_)
          refine lv_bipush (v := (-2)) X.1 X.2.1 dX10_forge_52 (by decide) ?_
          have e9 : sp_forge key k cn a b u = ((-2), u) := (by unfold sp_forge; (repeat (first | refine (if_pos (by omega)).trans ?_ | refine (if_neg (by omega)).trans ?_)); first | rfl | (refine congrArg (fun z => ((u 0 8, zs_mk u z) : Int32 × zm_T)) ?_; (repeat (first | refine (if_pos (by omega)).trans ?_ | refine (if_neg (by omega)).trans ?_)); rfl) | (rw [zs_mk3 rfl]; refine congrArg (fun z => ((u 0 8, zs_mk u z) : Int32 × zm_T)) ?_; (repeat (first | refine (if_pos (by omega)).trans ?_ | refine (if_neg (by omega)).trans ?_)); rfl))
          exact zr_iret X hW dX10_forge_54 (Nat.le_refl _) (Nat.le_refl _) ⟨rfl, rfl, by rw [e9], by rw [e9]⟩
      · subst h9
        have h_3 : ¬ (zs_st u key) := h_3
        refine zr_if_eq (a := 0) (tgt := 52) X dX10_forge_30 (by decide) (by decide) (fun _ => ?_) (fun c9 => absurd c9 (by decide))
        refine lv_bipush (v := (-2)) X.1 X.2.1 dX10_forge_52 (by decide) ?_
        have e9 : sp_forge key k cn a b u = ((-2), u) := (by unfold sp_forge; (repeat (first | refine (if_pos (by omega)).trans ?_ | refine (if_neg (by omega)).trans ?_)); first | rfl | (refine congrArg (fun z => ((u 0 8, zs_mk u z) : Int32 × zm_T)) ?_; (repeat (first | refine (if_pos (by omega)).trans ?_ | refine (if_neg (by omega)).trans ?_)); rfl) | (rw [zs_mk3 rfl]; refine congrArg (fun z => ((u 0 8, zs_mk u z) : Int32 × zm_T)) ?_; (repeat (first | refine (if_pos (by omega)).trans ?_ | refine (if_neg (by omega)).trans ?_)); rfl))
        exact zr_iret X hW dX10_forge_54 (Nat.le_refl _) (Nat.le_refl _) ⟨rfl, rfl, by rw [e9], by rw [e9]⟩
    · refine lv_iload_n X.1 X.2.1 dX10_forge_14 rfl (lv_at hl 3 rfl) ?_
      refine lv_iconst (v := 0) X.1 X.2.1 dX10_forge_15 (by decide) ?_
      refine lv_iconst (v := 5) X.1 X.2.1 dX10_forge_16 (by decide) ?_
      refine zr_callS (As := [.int cn, .int 0, .int 5]) (rest := []) X hW hl.1 md_X10_in ms_X10_87 dX10_forge_17 rfl rfl (Nat.le_of_ble_eq_true rfl) ⟨Nat.le_of_ble_eq_true rfl, Nat.le_of_ble_eq_true rfl⟩ ⟨Nat.le_of_ble_eq_true rfl, Nat.le_of_ble_eq_true rfl⟩ (c_X10_in l Y N0 ad sh (zm_mix u g0) cn 0 5) (fun v9 ad9 sh9 g9 H locs hp hW => ?_)
      rcases hp with ⟨rfl, rfl, rfl, ⟨h_9, h9⟩ | ⟨h_9, h9⟩⟩
      · subst h9
        have h_9 : zi_in cn 0 5 := h_9
        refine zr_if_ne (a := 1) (tgt := 25) X dX10_forge_20 (by decide) (by decide) (fun _ => ?_) (fun c9 => absurd c9 (by decide))
        refine lv_aload_n X.1 X.2.1 dX10_forge_25 rfl (lv_at hl 0 rfl) ?_
        refine lv_iload_n X.1 X.2.1 dX10_forge_26 rfl (lv_at hl 1 rfl) ?_
        refine zr_callV (As := [.int key]) (rest := []) X hW hl.1 md_X10_isStolen ms_X10_159 dX10_forge_27 (zm_s0 hM) rfl rfl rfl rfl (Nat.le_of_ble_eq_true rfl) ⟨Nat.le_of_ble_eq_true rfl, Nat.le_of_ble_eq_true rfl⟩ ⟨Nat.le_of_ble_eq_true rfl, Nat.le_of_ble_eq_true rfl⟩ (c_X10_isStolen l Y N0 ad sh u g0 hM key hI) (fun v9 ad9 sh9 g9 H locs hp hW => ?_)
        rcases hp with ⟨rfl, rfl, rfl, ⟨h_10, h9⟩ | ⟨h_10, h9⟩⟩
        · subst h9
          have h_10 : zs_st u key := h_10
          refine zr_if_eq (a := 1) (tgt := 52) X dX10_forge_30 (by decide) (by decide) (fun c9 => absurd c9 (by decide)) (fun _ => ?_)
          refine lv_iload_n X.1 X.2.1 dX10_forge_33 rfl (lv_at hl 2 rfl) ?_
          refine lv_iconst (v := 2) X.1 X.2.1 dX10_forge_34 (by decide) ?_
          refine zr_icmp_eq (a := (k).toInt) (b := 2) (tgt := 43) X dX10_forge_35 (by decide) rfl (by decide) (fun c_11 => ?_) (fun c_11 => ?_)
          · refine lv_aload_n X.1 X.2.1 dX10_forge_43 rfl (lv_at hl 0 rfl) ?_
            refine lv_iload X.1 X.2.1 dX10_forge_44 (lv_at hl 4 rfl) ?_
            refine zr_callV (As := [.int a]) (rest := []) X hW hl.1 md_X10_isStolen ms_X10_159 dX10_forge_46 (zm_s0 hM) rfl rfl rfl rfl (Nat.le_of_ble_eq_true rfl) ⟨Nat.le_of_ble_eq_true rfl, Nat.le_of_ble_eq_true rfl⟩ ⟨Nat.le_of_ble_eq_true rfl, Nat.le_of_ble_eq_true rfl⟩ (c_X10_isStolen l Y N0 ad sh u g0 hM a hI) (fun v9 ad9 sh9 g9 H locs hp hW => ?_)
            rcases hp with ⟨rfl, rfl, rfl, ⟨h_12, h9⟩ | ⟨h_12, h9⟩⟩
            · subst h9
              have h_12 : zs_st u a := h_12
              refine zr_if_ne (a := 1) (tgt := 55) X dX10_forge_49 (by decide) (by decide) (fun _ => ?_) (fun c9 => absurd c9 (by decide))
              refine lv_aload_n X.1 X.2.1 dX10_forge_55 rfl (lv_at hl 0 rfl) ?_
              refine zr_get (v := .int (u 0 8)) X hW fs_X10_102_9 dX10_forge_56 (zm_s0 hM) rfl rfl rfl ?_
              refine lv_sipush (v := 150) X.1 X.2.1 dX10_forge_59 (by decide) ?_
              refine zr_icmp_lt (a := (u 0 8).toInt) (b := 150) (tgt := 68) X dX10_forge_62 (by decide) rfl (by decide) (fun c_13 => ?_) (fun c_13 => ?_)
              · refine lv_iload_n X.1 X.2.1 dX10_forge_68 rfl (lv_at hl 2 rfl) ?_
                refine lv_iconst (v := 1) X.1 X.2.1 dX10_forge_69 (by decide) ?_
                refine zr_icmp_ne (a := (k).toInt) (b := 1) (tgt := 82) X dX10_forge_70 (by decide) rfl (by decide) (fun _ => ?_) (fun c9 => absurd c9 (by omega))
                refine lv_iload_n X.1 X.2.1 dX10_forge_82 rfl (lv_at hl 2 rfl) ?_
                refine lv_iconst (v := 2) X.1 X.2.1 dX10_forge_83 (by decide) ?_
                refine zr_icmp_ne (a := (k).toInt) (b := 2) (tgt := 101) X dX10_forge_84 (by decide) rfl (by decide) (fun c9 => absurd c9 (by omega)) (fun _ => ?_)
                refine lv_aload_n X.1 X.2.1 dX10_forge_87 rfl (lv_at hl 0 rfl) ?_
                refine lv_iload_n X.1 X.2.1 dX10_forge_88 rfl (lv_at hl 1 rfl) ?_
                refine lv_iload_n X.1 X.2.1 dX10_forge_89 rfl (lv_at hl 3 rfl) ?_
                refine lv_iload X.1 X.2.1 dX10_forge_90 (lv_at hl 4 rfl) ?_
                refine lv_iconst (v := 0) X.1 X.2.1 dX10_forge_92 (by decide) ?_
                refine lv_iload X.1 X.2.1 dX10_forge_93 (lv_at hl 5 rfl) ?_
                refine lv_iload X.1 X.2.1 dX10_forge_95 (lv_at hl 5 rfl) ?_
                refine zr_callV (As := [.int key, .int cn, .int a, .int 0, .int b, .int b]) (rest := []) X hW hl.1 md_X10_makeTicket ms_X10_129 dX10_forge_97 (zm_s0 hM) rfl rfl rfl rfl (Nat.le_of_ble_eq_true rfl) ⟨Nat.le_of_ble_eq_true rfl, Nat.le_of_ble_eq_true rfl⟩ ⟨Nat.le_of_ble_eq_true rfl, Nat.le_of_ble_eq_true rfl⟩ (c_X10_makeTicket l Y N0 ad sh u g0 hM key cn a 0 b b (by omega)) (fun v9 ad9 sh9 g9 H locs hp hW => ?_)
                obtain ⟨rfl, rfl, _, rfl, rfl, rfl⟩ := hp
                obtain ⟨u_15, hu_15⟩ : ∃ z : zm_T, z = zs_mk u (zs_v 2 key cn a 0 b b 0 0 0) := ⟨_, rfl⟩
                rw [← hu_15] at hW
                have e9 : sp_forge key k cn a b u = (u 0 8, u_15) := (by subst hu_15; unfold sp_forge; (repeat (first | refine (if_pos (by omega)).trans ?_ | refine (if_neg (by omega)).trans ?_)); first | rfl | (refine congrArg (fun z => ((u 0 8, zs_mk u z) : Int32 × zm_T)) ?_; (repeat (first | refine (if_pos (by omega)).trans ?_ | refine (if_neg (by omega)).trans ?_)); rfl) | (rw [zs_mk3 rfl]; refine congrArg (fun z => ((u 0 8, zs_mk u z) : Int32 × zm_T)) ?_; (repeat (first | refine (if_pos (by omega)).trans ?_ | refine (if_neg (by omega)).trans ?_)); rfl))
                exact zr_iret X hW dX10_forge_100 (Nat.le_refl _) (Nat.le_refl _) ⟨rfl, rfl, by rw [e9], by rw [e9]⟩
              · refine lv_bipush (v := (-7)) X.1 X.2.1 dX10_forge_65 (by decide) ?_
                have e9 : sp_forge key k cn a b u = ((-7), u) := (by unfold sp_forge; (repeat (first | refine (if_pos (by omega)).trans ?_ | refine (if_neg (by omega)).trans ?_)); first | rfl | (refine congrArg (fun z => ((u 0 8, zs_mk u z) : Int32 × zm_T)) ?_; (repeat (first | refine (if_pos (by omega)).trans ?_ | refine (if_neg (by omega)).trans ?_)); rfl) | (rw [zs_mk3 rfl]; refine congrArg (fun z => ((u 0 8, zs_mk u z) : Int32 × zm_T)) ?_; (repeat (first | refine (if_pos (by omega)).trans ?_ | refine (if_neg (by omega)).trans ?_)); rfl))
                exact zr_iret X hW dX10_forge_67 (Nat.le_refl _) (Nat.le_refl _) ⟨rfl, rfl, by rw [e9], by rw [e9]⟩
            · subst h9
              have h_12 : ¬ (zs_st u a) := h_12
              refine zr_if_ne (a := 0) (tgt := 55) X dX10_forge_49 (by decide) (by decide) (fun c9 => absurd c9 (by decide)) (fun _ => ?_)
              refine lv_bipush (v := (-2)) X.1 X.2.1 dX10_forge_52 (by decide) ?_
              have e9 : sp_forge key k cn a b u = ((-2), u) := (by unfold sp_forge; (repeat (first | refine (if_pos (by omega)).trans ?_ | refine (if_neg (by omega)).trans ?_)); first | rfl | (refine congrArg (fun z => ((u 0 8, zs_mk u z) : Int32 × zm_T)) ?_; (repeat (first | refine (if_pos (by omega)).trans ?_ | refine (if_neg (by omega)).trans ?_)); rfl) | (rw [zs_mk3 rfl]; refine congrArg (fun z => ((u 0 8, zs_mk u z) : Int32 × zm_T)) ?_; (repeat (first | refine (if_pos (by omega)).trans ?_ | refine (if_neg (by omega)).trans ?_)); rfl))
              exact zr_iret X hW dX10_forge_54 (Nat.le_refl _) (Nat.le_refl _) ⟨rfl, rfl, by rw [e9], by rw [e9]⟩
          · refine lv_iload_n X.1 X.2.1 dX10_forge_38 rfl (lv_at hl 2 rfl) ?_
            refine lv_iconst (v := 3) X.1 X.2.1 dX10_forge_39 (by decide) ?_
            refine zr_icmp_ne (a := (k).toInt) (b := 3) (tgt := 55) X dX10_forge_40 (by decide) rfl (by decide) (fun _ => ?_) (fun c9 => absurd c9 (by omega))
            refine lv_aload_n X.1 X.2.1 dX10_forge_55 rfl (lv_at hl 0 rfl) ?_
            refine zr_get (v := .int (u 0 8)) X hW fs_X10_102_9 dX10_forge_56 (zm_s0 hM) rfl rfl rfl ?_
            refine lv_sipush (v := 150) X.1 X.2.1 dX10_forge_59 (by decide) ?_
            refine zr_icmp_lt (a := (u 0 8).toInt) (b := 150) (tgt := 68) X dX10_forge_62 (by decide) rfl (by decide) (fun c_17 => ?_) (fun c_17 => ?_)
            · refine lv_iload_n X.1 X.2.1 dX10_forge_68 rfl (lv_at hl 2 rfl) ?_
              refine lv_iconst (v := 1) X.1 X.2.1 dX10_forge_69 (by decide) ?_
              refine zr_icmp_ne (a := (k).toInt) (b := 1) (tgt := 82) X dX10_forge_70 (by decide) rfl (by decide) (fun c_18 => ?_) (fun c_18 => ?_)
              · refine lv_iload_n X.1 X.2.1 dX10_forge_82 rfl (lv_at hl 2 rfl) ?_
                refine lv_iconst (v := 2) X.1 X.2.1 dX10_forge_83 (by decide) ?_
                refine zr_icmp_ne (a := (k).toInt) (b := 2) (tgt := 101) X dX10_forge_84 (by decide) rfl (by decide) (fun _ => ?_) (fun c9 => absurd c9 (by omega))
                refine lv_iload_n X.1 X.2.1 dX10_forge_101 rfl (lv_at hl 2 rfl) ?_
                refine lv_iconst (v := 3) X.1 X.2.1 dX10_forge_102 (by decide) ?_
                refine zr_icmp_ne (a := (k).toInt) (b := 3) (tgt := 119) X dX10_forge_103 (by decide) rfl (by decide) (fun _ => ?_) (fun c9 => absurd c9 (by omega))
                refine lv_aload_n X.1 X.2.1 dX10_forge_119 rfl (lv_at hl 0 rfl) ?_
                refine lv_iload_n X.1 X.2.1 dX10_forge_120 rfl (lv_at hl 1 rfl) ?_
                refine lv_iload_n X.1 X.2.1 dX10_forge_121 rfl (lv_at hl 3 rfl) ?_
                refine lv_iload X.1 X.2.1 dX10_forge_122 (lv_at hl 5 rfl) ?_
                refine lv_iconst (v := 0) X.1 X.2.1 dX10_forge_124 (by decide) ?_
                refine zr_callV (As := [.int key, .int cn, .int b, .int 0]) (rest := []) X hW hl.1 md_X10_makeClaim ms_X10_123 dX10_forge_125 (zm_s0 hM) rfl rfl rfl rfl (Nat.le_of_ble_eq_true rfl) ⟨Nat.le_of_ble_eq_true rfl, Nat.le_of_ble_eq_true rfl⟩ ⟨Nat.le_of_ble_eq_true rfl, Nat.le_of_ble_eq_true rfl⟩ (c_X10_makeClaim l Y N0 ad sh u g0 hM key cn b 0 (by omega)) (fun v9 ad9 sh9 g9 H locs hp hW => ?_)
                obtain ⟨rfl, rfl, _, rfl, rfl, rfl⟩ := hp
                obtain ⟨u_20, hu_20⟩ : ∃ z : zm_T, z = zs_mk u (zs_v 4 key cn (-1) b 0 0 0 0 0) := ⟨_, rfl⟩
                rw [← hu_20] at hW
                refine lv_istore (lv' := [(6, .int (u 0 8)), (0, .ref (ad 0)), (1, .int key), (2, .int k), (3, .int cn), (4, .int a), (5, .int b)]) X.1 X.2.1 dX10_forge_128 hl (by decide) rfl (fun ls hl => ?_)
                refine lv_aload_n X.1 X.2.1 dX10_forge_130 rfl (lv_at hl 1 rfl) ?_
                refine zr_get (v := .ref (ad 16)) X hW fs_X10_50_9 dX10_forge_131 (zm_s0 hM) rfl rfl rfl ?_
                refine lv_iload X.1 X.2.1 dX10_forge_134 (lv_at hl 0 rfl) ?_
                refine lv_iload X.1 X.2.1 dX10_forge_136 (lv_at hl 5 rfl) ?_
                refine lv_iconst (v := 3) X.1 X.2.1 dX10_forge_138 (by decide) ?_
                refine lv_iand X.1 X.2.1 dX10_forge_139 ?_
                refine zr_iast X hW dX10_forge_140 (zm_s16 hM) rfl rfl (zi_vp (by omega)) (fun H locs hW => ?_)
                have hW : zw_St Y N0 ad sh (zm_mix (zm_w u_20 16 (zn (u 0 8)) (a &&& 3)) g0) s H locs := zm_st (by decide) hW
                obtain ⟨u_22, hu_22⟩ : ∃ z : zm_T, z = zm_w u_20 16 (zn (u 0 8)) (a &&& 3) := ⟨_, rfl⟩
                rw [← hu_22] at hW
                refine lv_aload_n X.1 X.2.1 dX10_forge_141 rfl (lv_at hl 1 rfl) ?_
                refine zr_get (v := .ref (ad 17)) X hW fs_X10_53_9 dX10_forge_142 (zm_s0 hM) rfl rfl rfl ?_
                refine lv_iload X.1 X.2.1 dX10_forge_145 (lv_at hl 0 rfl) ?_
                refine lv_iload X.1 X.2.1 dX10_forge_147 (lv_at hl 5 rfl) ?_
                refine lv_iconst (v := 2) X.1 X.2.1 dX10_forge_149 (by decide) ?_
                refine lv_ishr X.1 X.2.1 dX10_forge_150 ?_
                refine lv_iconst (v := 3) X.1 X.2.1 dX10_forge_151 (by decide) ?_
                refine lv_iand X.1 X.2.1 dX10_forge_152 ?_
                refine lv_iconst (v := 3) X.1 X.2.1 dX10_forge_153 (by decide) ?_
                refine lv_irem X.1 X.2.1 dX10_forge_154 (by decide) ?_
                refine zr_iast X hW dX10_forge_155 (zm_s17 hM) rfl rfl (zi_vp (by omega)) (fun H locs hW => ?_)
                have hW : zw_St Y N0 ad sh (zm_mix (zm_w u_22 17 (zn (u 0 8)) (((a >>> ((2 : Int32) &&& 31)) &&& 3) - ((a >>> ((2 : Int32) &&& 31)) &&& 3) / 3 * 3)) g0) s H locs := zm_st (by decide) hW
                obtain ⟨u_23, hu_23⟩ : ∃ z : zm_T, z = zm_w u_22 17 (zn (u 0 8)) (((a >>> ((2 : Int32) &&& 31)) &&& 3) - ((a >>> ((2 : Int32) &&& 31)) &&& 3) / 3 * 3) := ⟨_, rfl⟩
                rw [← hu_23] at hW
                refine lv_aload_n X.1 X.2.1 dX10_forge_156 rfl (lv_at hl 1 rfl) ?_
                refine zr_get (v := .ref (ad 18)) X hW fs_X10_56_9 dX10_forge_157 (zm_s0 hM) rfl rfl rfl ?_
                refine lv_iload X.1 X.2.1 dX10_forge_160 (lv_at hl 0 rfl) ?_
                refine lv_iload X.1 X.2.1 dX10_forge_162 (lv_at hl 5 rfl) ?_
                refine lv_iconst (v := 4) X.1 X.2.1 dX10_forge_164 (by decide) ?_
                refine lv_ishr X.1 X.2.1 dX10_forge_165 ?_
                refine zr_iast X hW dX10_forge_166 (zm_s18 hM) rfl rfl (zi_vp (by omega)) (fun H locs hW => ?_)
                have hW : zw_St Y N0 ad sh (zm_mix (zm_w u_23 18 (zn (u 0 8)) (a >>> ((4 : Int32) &&& 31))) g0) s H locs := zm_st (by decide) hW
                obtain ⟨u_24, hu_24⟩ : ∃ z : zm_T, z = zm_w u_23 18 (zn (u 0 8)) (a >>> ((4 : Int32) &&& 31)) := ⟨_, rfl⟩
                rw [← hu_24] at hW
                refine lv_iload X.1 X.2.1 dX10_forge_167 (lv_at hl 0 rfl) ?_
                have e9 : sp_forge key k cn a b u = (u 0 8, u_24) := (by subst hu_24 hu_23 hu_22 hu_20; unfold sp_forge; (repeat (first | refine (if_pos (by omega)).trans ?_ | refine (if_neg (by omega)).trans ?_)); first | rfl | (refine congrArg (fun z => ((u 0 8, zs_mk u z) : Int32 × zm_T)) ?_; (repeat (first | refine (if_pos (by omega)).trans ?_ | refine (if_neg (by omega)).trans ?_)); rfl) | (rw [zs_mk3 rfl]; refine congrArg (fun z => ((u 0 8, zs_mk u z) : Int32 × zm_T)) ?_; (repeat (first | refine (if_pos (by omega)).trans ?_ | refine (if_neg (by omega)).trans ?_)); rfl))
                exact zr_iret X hW dX10_forge_169 (Nat.le_refl _) (Nat.le_refl _) ⟨rfl, rfl, by rw [e9], by rw [e9]⟩
              · refine lv_aload_n X.1 X.2.1 dX10_forge_73 rfl (lv_at hl 0 rfl) ?_
                refine lv_iload_n X.1 X.2.1 dX10_forge_74 rfl (lv_at hl 1 rfl) ?_
                refine lv_iload_n X.1 X.2.1 dX10_forge_75 rfl (lv_at hl 3 rfl) ?_
                refine lv_iload X.1 X.2.1 dX10_forge_76 (lv_at hl 5 rfl) ?_
                refine zr_callV (As := [.int key, .int cn, .int b]) (rest := []) X hW hl.1 md_X10_makeProof ms_X10_119 dX10_forge_78 (zm_s0 hM) rfl rfl rfl rfl (Nat.le_of_ble_eq_true rfl) ⟨Nat.le_of_ble_eq_true rfl, Nat.le_of_ble_eq_true rfl⟩ ⟨Nat.le_of_ble_eq_true rfl, Nat.le_of_ble_eq_true rfl⟩ (c_X10_makeProof l Y N0 ad sh u g0 hM key cn b (by omega)) (fun v9 ad9 sh9 g9 H locs hp hW => ?_)
                obtain ⟨rfl, rfl, _, rfl, rfl, rfl⟩ := hp
                obtain ⟨u_26, hu_26⟩ : ∃ z : zm_T, z = zs_mk u (zs_v 1 key cn (-1) b 0 0 0 0 0) := ⟨_, rfl⟩
                rw [← hu_26] at hW
                have e9 : sp_forge key k cn a b u = (u 0 8, u_26) := (by subst hu_26; unfold sp_forge; (repeat (first | refine (if_pos (by omega)).trans ?_ | refine (if_neg (by omega)).trans ?_)); first | rfl | (refine congrArg (fun z => ((u 0 8, zs_mk u z) : Int32 × zm_T)) ?_; (repeat (first | refine (if_pos (by omega)).trans ?_ | refine (if_neg (by omega)).trans ?_)); rfl) | (rw [zs_mk3 rfl]; refine congrArg (fun z => ((u 0 8, zs_mk u z) : Int32 × zm_T)) ?_; (repeat (first | refine (if_pos (by omega)).trans ?_ | refine (if_neg (by omega)).trans ?_)); rfl))
                exact zr_iret X hW dX10_forge_81 (Nat.le_refl _) (Nat.le_refl _) ⟨rfl, rfl, by rw [e9], by rw [e9]⟩
            · refine lv_bipush (v := (-7)) X.1 X.2.1 dX10_forge_65 (by decide) ?_
              have e9 : sp_forge key k cn a b u = ((-7), u) := (by unfold sp_forge; (repeat (first | refine (if_pos (by omega)).trans ?_ | refine (if_neg (by omega)).trans ?_)); first | rfl | (refine congrArg (fun z => ((u 0 8, zs_mk u z) : Int32 × zm_T)) ?_; (repeat (first | refine (if_pos (by omega)).trans ?_ | refine (if_neg (by omega)).trans ?_)); rfl) | (rw [zs_mk3 rfl]; refine congrArg (fun z => ((u 0 8, zs_mk u z) : Int32 × zm_T)) ?_; (repeat (first | refine (if_pos (by omega)).trans ?_ | refine (if_neg (by omega)).trans ?_)); rfl))
              exact zr_iret X hW dX10_forge_67 (Nat.le_refl _) (Nat.le_refl _) ⟨rfl, rfl, by rw [e9], by rw [e9]⟩
        · subst h9
          have h_10 : ¬ (zs_st u key) := h_10
          refine zr_if_eq (a := 0) (tgt := 52) X dX10_forge_30 (by decide) (by decide) (fun _ => ?_) (fun c9 => absurd c9 (by decide))
          refine lv_bipush (v := (-2)) X.1 X.2.1 dX10_forge_52 (by decide) ?_
          have e9 : sp_forge key k cn a b u = ((-2), u) := (by unfold sp_forge; (repeat (first | refine (if_pos (by omega)).trans ?_ | refine (if_neg (by omega)).trans ?_)); first | rfl | (refine congrArg (fun z => ((u 0 8, zs_mk u z) : Int32 × zm_T)) ?_; (repeat (first | refine (if_pos (by omega)).trans ?_ | refine (if_neg (by omega)).trans ?_)); rfl) | (rw [zs_mk3 rfl]; refine congrArg (fun z => ((u 0 8, zs_mk u z) : Int32 × zm_T)) ?_; (repeat (first | refine (if_pos (by omega)).trans ?_ | refine (if_neg (by omega)).trans ?_)); rfl))
          exact zr_iret X hW dX10_forge_54 (Nat.le_refl _) (Nat.le_refl _) ⟨rfl, rfl, by rw [e9], by rw [e9]⟩
      · subst h9
        have h_9 : ¬ (zi_in cn 0 5) := h_9
        refine zr_if_ne (a := 0) (tgt := 25) X dX10_forge_20 (by decide) (by decide) (fun c9 => absurd c9 (by decide)) (fun _ => ?_)
        refine lv_iconst (v := (-1)) X.1 X.2.1 dX10_forge_23 (by decide) ?_
        have e9 : sp_forge key k cn a b u = ((-1), u) := (by unfold sp_forge; (repeat (first | refine (if_pos (by omega)).trans ?_ | refine (if_neg (by omega)).trans ?_)); first | rfl | (refine congrArg (fun z => ((u 0 8, zs_mk u z) : Int32 × zm_T)) ?_; (repeat (first | refine (if_pos (by omega)).trans ?_ | refine (if_neg (by omega)).trans ?_)); rfl) | (rw [zs_mk3 rfl]; refine congrArg (fun z => ((u 0 8, zs_mk u z) : Int32 × zm_T)) ?_; (repeat (first | refine (if_pos (by omega)).trans ?_ | refine (if_neg (by omega)).trans ?_)); rfl))
        exact zr_iret X hW dX10_forge_24 (Nat.le_refl _) (Nat.le_refl _) ⟨rfl, rfl, by rw [e9], by rw [e9]⟩
  · subst h9
    have h_1 : ¬ (zi_in k 1 4) := h_1
    refine zr_if_eq (a := 0) (tgt := 23) X dX10_forge_6 (by decide) (by decide) (fun _ => ?_) (fun c9 => absurd c9 (by decide))
    refine lv_iconst (v := (-1)) X.1 X.2.1 dX10_forge_23 (by decide) ?_
    have e9 : sp_forge key k cn a b u = ((-1), u) := (by unfold sp_forge; (repeat (first | refine (if_pos (by omega)).trans ?_ | refine (if_neg (by omega)).trans ?_)); first | rfl | (refine congrArg (fun z => ((u 0 8, zs_mk u z) : Int32 × zm_T)) ?_; (repeat (first | refine (if_pos (by omega)).trans ?_ | refine (if_neg (by omega)).trans ?_)); rfl) | (rw [zs_mk3 rfl]; refine congrArg (fun z => ((u 0 8, zs_mk u z) : Int32 × zm_T)) ?_; (repeat (first | refine (if_pos (by omega)).trans ?_ | refine (if_neg (by omega)).trans ?_)); rfl))
    exact zr_iret X hW dX10_forge_24 (Nat.le_refl _) (Nat.le_refl _) ⟨rfl, rfl, by rw [e9], by rw [e9]⟩
