theorem ds_X5 : ∀ (ad : Nat → Nat) (j : Nat), j < 3 → defaultValue (tyX5 j) = vp_V (zw_fs ad (fun _ => 0) 0 [none, none, none]) j := by
  intro ad j hj
  match j, hj with
  | 0, _ => rfl
  | 1, _ => rfl
  | 2, _ => rfl
  | j + 3, h => exact absurd h (by omega)

theorem ds_X7 : ∀ (ad : Nat → Nat) (j : Nat), j < 6 → defaultValue (tyX7 j) = vp_V (zw_fs ad (fun _ => 0) 0 [none, none, none, none, none, none]) j := by
  intro ad j hj
  match j, hj with
  | 0, _ => rfl
  | 1, _ => rfl
  | 2, _ => rfl
  | 3, _ => rfl
  | 4, _ => rfl
  | 5, _ => rfl
  | j + 6, h => exact absurd h (by omega)

theorem ds_X4 : ∀ (ad : Nat → Nat) (j : Nat), j < 5 → defaultValue (tyX4 j) = vp_V (zw_fs ad (fun _ => 0) 0 [none, none, none, none, none]) j := by
  intro ad j hj
  match j, hj with
  | 0, _ => rfl
  | 1, _ => rfl
  | 2, _ => rfl
  | 3, _ => rfl
  | 4, _ => rfl
  | j + 5, h => exact absurd h (by omega)

theorem ds_X1 : ∀ (ad : Nat → Nat) (j : Nat), j < 5 → defaultValue (tyX1 j) = vp_V (zw_fs ad (fun _ => 0) 0 [none, none, none, none, some none]) j := by
  intro ad j hj
  match j, hj with
  | 0, _ => rfl
  | 1, _ => rfl
  | 2, _ => rfl
  | 3, _ => rfl
  | 4, _ => rfl
  | j + 5, h => exact absurd h (by omega)

theorem ds_X3 : ∀ (ad : Nat → Nat) (j : Nat), j < 3 → defaultValue (tyX3 j) = vp_V (zw_fs ad (fun _ => 0) 0 [none, none, none]) j := by
  intro ad j hj
  match j, hj with
  | 0, _ => rfl
  | 1, _ => rfl
  | 2, _ => rfl
  | j + 3, h => exact absurd h (by omega)

set_option maxHeartbeats 4000000 in
set_option maxRecDepth 100000 in
theorem c_X9_login (l : Launch) (Y : zw_Y) (N0 : Nat) (ad : Nat → Nat) (sh : Nat → Option zw_Sh) (g u : zm_T) (hR : zc_R sh g u) (hI : zm_I u) (a t : Int32) : zw_Met l Y N0 yX9_login cX9_login 4 (some .int) 3 64 1 3 ad sh g [.ref (ad 100), .int a, .int t] (zc_Po ad sh g (sp_login a t u)) := by
  refine zw_meth (by decide) (Nat.le_of_ble_eq_true rfl) ?_
  intro p e s m below meth c ls X hnm hl hW
  have hl : lv_has ls 4 [(0, .ref (ad 100)), (1, .int a), (2, .int t)] := hl
  have hS := hR.1
  have hN0 := hR.2.1
  have hN := hR.2.1
  have hB : ∀ i : Nat, i < 12 → -1 ≤ (u 5 i).toInt := fun i hi => (zI_bk hI i hi).1
  have hT : ∀ i : Nat, i < 12 → -1 ≤ (u 23 i).toInt := fun i hi => (zI_tk hI i hi).1
  have hse := zI_se hI
  have hke := zI_ke hI
  refine lv_aload_n X.1 X.2.1 dX9_login_0 rfl (lv_at hl 0 rfl) ?_
  refine lv_iload_n X.1 X.2.1 dX9_login_1 rfl (lv_at hl 1 rfl) ?_
  refine zr_callV (As := [.int a]) (rest := []) X hW hl.1 md_X9_userAt ms_X9_112 dX9_login_2 (zc_s100 hS) rfl rfl rfl rfl (Nat.le_of_ble_eq_true rfl) ⟨Nat.le_of_ble_eq_true rfl, Nat.le_of_ble_eq_true rfl⟩ ⟨Nat.le_of_ble_eq_true rfl, Nat.le_of_ble_eq_true rfl⟩ (c_X9_userAt l Y N0 ad sh g hS a) (fun v9 ad9 sh9 g9 H locs hp hW => ?_)
  rcases hp with ⟨rfl, rfl, rfl, ⟨h9, h8⟩ | ⟨h9, h8⟩ | ⟨h9, h8⟩ | ⟨h9, h8⟩ | ⟨h9, h8⟩⟩
  · subst h8
    subst h9
    refine lv_astore_n (lv' := [(3, .ref (ad 115)), (0, .ref (ad 100)), (1, .int 2), (2, .int t)]) X.1 X.2.1 dX9_login_5 rfl hl (by decide) rfl (fun ls hl => ?_)
    refine lv_aload_n X.1 X.2.1 dX9_login_6 rfl (lv_at hl 0 rfl) ?_
    refine lv_ifnull X.1 X.2.1 dX9_login_7 ?_
    have how := zI_ow hI 2 (by omega)
    refine lv_aload_n X.1 X.2.1 dX9_login_10 rfl (lv_at hl 1 rfl) ?_
    refine zr_get (r := 100) (v := .ref (ad 102)) X hW fs_X9_13_8 dX9_login_11 (zc_s100 hS) rfl rfl rfl ?_
    refine lv_iload_n X.1 X.2.1 dX9_login_14 rfl (lv_at hl 2 rfl) ?_
    refine zr_iald (r := 102) (v := u 3 2) X hW dX9_login_15 (zc_s102 hS) rfl rfl (zi_vp (by decide)) ((show g 102 (2 : Int32).toNatClampNeg = g 102 2 from rfl).trans (hN0 _ _ _ _ rfl)) ?_
    refine lv_iconst (v := (-1)) X.1 X.2.1 dX9_login_16 (by decide) ?_
    refine zr_icmp_eq (a := (u 3 2).toInt) (b := (-1)) (tgt := 27) X dX9_login_17 (by decide) rfl (by decide) (fun c_1 => ?_) (fun c_1 => ?_)
    · refine lv_iconst (v := (-1)) X.1 X.2.1 dX9_login_27 (by decide) ?_
      have e9 : sp_login 2 t u = ((-1), u) := (by unfold sp_login; simp only [show zn (2 : Int32) = 2 from rfl]; (first | refine (if_neg (fun h9 => h9 ⟨by decide, by omega⟩)).trans ?_ | refine (if_pos (fun h9 => by obtain ⟨-, h9⟩ := h9; omega)).trans ?_ | refine (if_pos (by omega)).trans ?_); (repeat (first | refine (if_pos (by omega)).trans ?_ | refine (if_neg (by omega)).trans ?_)); rfl)
      exact zr_iret X hW dX9_login_28 (Nat.le_of_ble_eq_true rfl) (Nat.le_of_ble_eq_true rfl) ⟨by rw [e9], by rw [e9]; exact hR, zc_fr0⟩
    · refine lv_iload_n X.1 X.2.1 dX9_login_20 rfl (lv_at hl 3 rfl) ?_
      refine zr_callS (As := [.int t]) (rest := []) X hW hl.1 md_X9_isTarget ms_X9_116 dX9_login_21 rfl rfl (Nat.le_of_ble_eq_true rfl) ⟨Nat.le_of_ble_eq_true rfl, Nat.le_of_ble_eq_true rfl⟩ ⟨Nat.le_of_ble_eq_true rfl, Nat.le_of_ble_eq_true rfl⟩ (c_X9_isTarget l Y N0 ad sh g t) (fun v9 ad9 sh9 g9 H locs hp hW => ?_)
      rcases hp with ⟨rfl, rfl, rfl, ⟨h_2, h9⟩ | ⟨h_2, h9⟩⟩
      · subst h9
        have h_2 : zi_in t 0 1 := h_2
        refine zr_if_ne (a := 1) (tgt := 29) X dX9_login_24 (by decide) (by decide) (fun _ => ?_) (fun c9 => absurd c9 (by decide))
        refine lv_aload_n X.1 X.2.1 dX9_login_29 rfl (lv_at hl 1 rfl) ?_
        refine lv_iconst (v := 0) X.1 X.2.1 dX9_login_30 (by decide) ?_
        refine lv_iconst (v := 1) X.1 X.2.1 dX9_login_31 (by decide) ?_
        refine zr_callV (As := [.int 0, .int 1]) (rest := []) X hW hl.1 md_X9_hasRoom ms_X9_76 dX9_login_32 (zc_s100 hS) rfl rfl rfl rfl (Nat.le_of_ble_eq_true rfl) ⟨Nat.le_of_ble_eq_true rfl, Nat.le_of_ble_eq_true rfl⟩ ⟨Nat.le_of_ble_eq_true rfl, Nat.le_of_ble_eq_true rfl⟩ (c_X9_hasRoom_01 l Y N0 ad sh g u hS hN hI) (fun v9 ad9 sh9 g9 H locs hp hW => ?_)
        rcases hp with ⟨rfl, rfl, rfl, ⟨h_3, h9⟩ | ⟨h_3, h9⟩⟩
        · subst h9
          have h_3 : (u 0 2).toInt + 0 ≤ 200 ∧ (u 0 8).toInt + 1 ≤ 150 := h_3
          refine zr_if_ne (a := 1) (tgt := 41) X dX9_login_35 (by decide) (by decide) (fun _ => ?_) (fun c9 => absurd c9 (by decide))
          refine lv_aload_n X.1 X.2.1 dX9_login_41 rfl (lv_at hl 0 rfl) ?_
          refine lv_aload_n X.1 X.2.1 dX9_login_42 rfl (lv_at hl 1 rfl) ?_
          refine zr_callV (As := []) (rest := [.ref (ad 115)]) X hW hl.1 md_X9_makeNonce ms_X9_119 dX9_login_43 (zc_s100 hS) rfl rfl rfl rfl (Nat.le_of_ble_eq_true rfl) ⟨Nat.le_of_ble_eq_true rfl, Nat.le_of_ble_eq_true rfl⟩ ⟨Nat.le_of_ble_eq_true rfl, Nat.le_of_ble_eq_true rfl⟩ (c_X9_makeNonce l Y N0 ad sh g u hS hN) (fun v9 ad9 sh9 g9 H locs hp hW => ?_)
          obtain ⟨rfl, rfl, _, rfl, rfl, rfl⟩ := hp
          obtain ⟨g_5, hg_5⟩ : ∃ z : zm_T, z = zm_w g 100 11 (u 0 19 + 1) := ⟨_, rfl⟩
          rw [← hg_5] at hW
          obtain ⟨u_6, hu_6⟩ : ∃ z : zm_T, z = zm_w u 0 19 (u 0 19 + 1) := ⟨_, rfl⟩
          have hN : zc_N g_5 u_6 := by rw [hg_5, hu_6]; exact zc_Nw hN rfl _
          refine lv_iload_n X.1 X.2.1 dX9_login_46 rfl (lv_at hl 3 rfl) ?_
          refine lv_aload_n X.1 X.2.1 dX9_login_47 rfl (lv_at hl 1 rfl) ?_
          refine zr_get (r := 100) (v := .ref (ad 102)) X hW fs_X9_13_8 dX9_login_48 (zc_s100 hS) rfl rfl rfl ?_
          refine lv_iload_n X.1 X.2.1 dX9_login_51 rfl (lv_at hl 2 rfl) ?_
          refine zr_iald (r := 102) (v := u 3 2) X hW dX9_login_52 (zc_s102 hS) rfl rfl (zi_vp (by decide)) ((show g_5 102 (2 : Int32).toNatClampNeg = g_5 102 2 from rfl).trans ((show g_5 102 2 = g 102 2 from (by rw [hg_5]; rfl)).trans (hN0 _ _ _ _ rfl))) ?_
          refine zr_callV (As := [.int (u 0 19 + 1), .int t, .int (u 3 2)]) (rest := []) X hW hl.1 md_X8_openRequest ms_X9_122 dX9_login_53 (zc_s115 hS) rfl rfl rfl rfl (Nat.le_of_ble_eq_true rfl) ⟨Nat.le_of_ble_eq_true rfl, Nat.le_of_ble_eq_true rfl⟩ ⟨Nat.le_of_ble_eq_true rfl, Nat.le_of_ble_eq_true rfl⟩ (c_X8_openRequest_0 l Y N0 ad sh g_5 hS (u 0 19 + 1) t (u 3 2)) (fun v9 ad9 sh9 g9 H locs hp hW => ?_)
          obtain ⟨rfl, rfl, rfl, rfl⟩ := hp
          obtain ⟨g_10, hg_10⟩ : ∃ z : zm_T, z = zm_w g_5 115 0 (u 0 19 + 1) := ⟨_, rfl⟩
          obtain ⟨g_11, hg_11⟩ : ∃ z : zm_T, z = zm_w g_10 115 1 t := ⟨_, rfl⟩
          obtain ⟨g_12, hg_12⟩ : ∃ z : zm_T, z = zm_w g_11 115 2 (u 3 2) := ⟨_, rfl⟩
          rw [← hg_10, ← hg_11, ← hg_12] at hW
          obtain ⟨u_13, hu_13⟩ : ∃ z : zm_T, z = zm_w u_6 20 2 (u 0 19 + 1) := ⟨_, rfl⟩
          have hN : zc_N g_10 u_13 := by rw [hg_10, hu_13]; exact zc_Nw hN rfl _
          obtain ⟨u_14, hu_14⟩ : ∃ z : zm_T, z = zm_w u_13 21 2 t := ⟨_, rfl⟩
          have hN : zc_N g_11 u_14 := by rw [hg_11, hu_14]; exact zc_Nw hN rfl _
          have hN : zc_N g_12 u_14 := by rw [hg_12]; exact zc_Nc hN rfl _
          have hR9 : zc_R sh g_12 (zs_rq u 2 t (u 3 2)) := by rw [hg_12, hg_11, hg_10, hg_5]; exact zc_rqR hR (j := 0) (by omega) t (u 3 2)
          have h8 : 0 ≤ ((zs_rq u 2 t (u 3 2)) 0 8).toInt ∧ ((zs_rq u 2 t (u 3 2)) 0 8).toInt < 150 := (show 0 ≤ (u 0 8).toInt ∧ (u 0 8).toInt < 150 by omega)
          have hsp : sp_login 2 t u = ((zs_rq u 2 t (u 3 2)) 0 8, zs_mk (zs_rq u 2 t (u 3 2)) (zs_v 1 ((zs_rq u 2 t (u 3 2)) 3 2) 2 (-1) ((zs_rq u 2 t (u 3 2)) 1 2) 0 0 0 0 0)) := (by unfold sp_login; simp only [show zn (2 : Int32) = 2 from rfl]; (first | refine (if_neg (fun h9 => h9 ⟨by decide, by omega⟩)).trans ?_ | refine (if_pos (fun h9 => by obtain ⟨-, h9⟩ := h9; omega)).trans ?_ | refine (if_pos (by omega)).trans ?_); (repeat (first | refine (if_pos (by omega)).trans ?_ | refine (if_neg (by omega)).trans ?_)); rfl)
          have hfr : zc_fr ad sh g ad sh g_12 := zc_fr1 (fun r h => by rw [hg_12, zm_wr (by omega), hg_11, zm_wr (by omega), hg_10, zm_wr (by omega), hg_5, zm_wr (by omega)])
          clear hN hN0
          generalize (zs_rq u 2 t (u 3 2)) = v1 at hR9 h8 hsp
          obtain ⟨u, rfl⟩ : ∃ z : zm_T, z = v1 := ⟨_, rfl⟩
          skip
          skip
          skip
          clear hg_12 hg_11 hg_10 hg_5
          obtain ⟨g, rfl⟩ : ∃ z : zm_T, z = g_12 := ⟨_, rfl⟩
          have hR := hR9
          clear hR9
          have hS := hR.1
          have hN0 := hR.2.1
          have hN := hR.2.1
          refine lv_aload_n X.1 X.2.1 dX9_login_56 rfl (lv_at hl 1 rfl) ?_
          refine zr_new (ss := [none, none, none]) X hW cs_X5 ns_X9_126 dX9_login_57 ds_X5 (by intro r h; simp at h) (200 + 2 * zn (u 0 8)) (hR.2.2.2.2.2.2.1 (200 + 2 * zn (u 0 8)) (by omega)) (Nat.le_of_ble_eq_true rfl) (Nat.le_of_ble_eq_true rfl) (fun ad_15 H had_15 hW => ?_)
          obtain ⟨sh_16, hsh_16⟩ : ∃ z : Nat → Option zw_Sh, z = va_up sh (200 + 2 * zn (u 0 8)) (some (.inl (5, [none, none, none]))) := ⟨_, rfl⟩
          obtain ⟨g_17, hg_17⟩ : ∃ z : zm_T, z = va_up g (200 + 2 * zn (u 0 8)) (fun _ => 0) := ⟨_, rfl⟩
          rw [← hsh_16, ← hg_17] at hW
          have hS : zc_S sh_16 := by rw [hsh_16]; exact zc_S200 (by omega) hS
          have hN : zc_N g_17 u := by rw [hg_17]; exact zc_Nv hN (by omega)
          refine lv_dup X.1 X.2.1 dX9_login_60 rfl ?_
          refine lv_aload_n X.1 X.2.1 dX9_login_61 rfl (lv_at hl 1 rfl) ?_
          refine zr_get (r := 100) (v := .ref (ad_15 102)) X hW fs_X9_13_8 dX9_login_62 (zc_s100 hS) (had_15 100 (by omega)) rfl rfl ?_
          refine lv_iload_n X.1 X.2.1 dX9_login_65 rfl (lv_at hl 2 rfl) ?_
          refine zr_iald (r := 102) (v := u 3 2) X hW dX9_login_66 (zc_s102 hS) rfl rfl (zi_vp (by decide)) ((show g_17 102 (2 : Int32).toNatClampNeg = g_17 102 2 from rfl).trans ((show g_17 102 2 = g 102 2 from (by rw [hg_17, va_up_ne _ _ (by omega)])).trans (hN0 _ _ _ _ rfl))) ?_
          refine lv_iload_n X.1 X.2.1 dX9_login_67 rfl (lv_at hl 2 rfl) ?_
          refine lv_aload_n X.1 X.2.1 dX9_login_68 rfl (lv_at hl 1 rfl) ?_
          refine zr_get (r := 100) (v := .ref (ad_15 101)) X hW fs_X9_9_8 dX9_login_69 (zc_s100 hS) (had_15 100 (by omega)) rfl rfl ?_
          refine lv_iload_n X.1 X.2.1 dX9_login_72 rfl (lv_at hl 2 rfl) ?_
          refine zr_iald (r := 101) (v := u 1 2) X hW dX9_login_73 (zc_s101 hS) rfl rfl (zi_vp (by decide)) ((show g_17 101 (2 : Int32).toNatClampNeg = g_17 101 2 from rfl).trans ((show g_17 101 2 = g 101 2 from (by rw [hg_17, va_up_ne _ _ (by omega)])).trans (hN0 _ _ _ _ rfl))) ?_
          refine zr_callI (As := [.int (u 3 2), .int 2, .int (u 1 2)]) (rest := [.ref (ad_15 (200 + 2 * zn (u 0 8))), .ref (ad 100)]) (b := ad_15 (200 + 2 * zn (u 0 8))) X hW hl.1 md_X5_init ms_X9_128 rfl dX9_login_74 rfl rfl (Nat.le_of_ble_eq_true rfl) ⟨Nat.le_of_ble_eq_true rfl, Nat.le_of_ble_eq_true rfl⟩ ⟨Nat.le_of_ble_eq_true rfl, Nat.le_of_ble_eq_true rfl⟩ (c_X5_init l Y N0 ad_15 sh_16 g_17 ((200 + 2 * zn (u 0 8))) (show sh_16 (200 + 2 * zn (u 0 8)) = some (.inl (5, [none, none, none])) from (by rw [hsh_16]; exact va_up_self _ _ _)) (u 3 2) 2 (u 1 2)) (fun v9 ad9 sh9 g9 H locs hp hW => ?_)
          obtain ⟨rfl, rfl, rfl, rfl⟩ := hp
          obtain ⟨g_21, hg_21⟩ : ∃ z : zm_T, z = zm_w g_17 (200 + 2 * zn (u 0 8)) 0 (u 3 2) := ⟨_, rfl⟩
          obtain ⟨g_22, hg_22⟩ : ∃ z : zm_T, z = zm_w g_21 (200 + 2 * zn (u 0 8)) 1 2 := ⟨_, rfl⟩
          obtain ⟨g_23, hg_23⟩ : ∃ z : zm_T, z = zm_w g_22 (200 + 2 * zn (u 0 8)) 2 (u 1 2) := ⟨_, rfl⟩
          rw [← hg_21, ← hg_22, ← hg_23] at hW
          have hN : zc_N g_21 u := by rw [hg_21]; exact zc_Nc hN (zc_lm200 (by omega)) _
          have hN : zc_N g_22 u := by rw [hg_22]; exact zc_Nc hN (zc_lm200 (by omega)) _
          have hN : zc_N g_23 u := by rw [hg_23]; exact zc_Nc hN (zc_lm200 (by omega)) _
          refine zr_callV (As := [.ref (ad_15 (200 + 2 * zn (u 0 8)))]) (rest := []) X hW hl.1 md_X9_keep ms_X9_130 dX9_login_77 (zc_s100 hS) rfl rfl rfl (by rw [(had_15 100 (by omega))] <;> rfl) (Nat.le_of_ble_eq_true rfl) ⟨Nat.le_of_ble_eq_true rfl, Nat.le_of_ble_eq_true rfl⟩ ⟨Nat.le_of_ble_eq_true rfl, Nat.le_of_ble_eq_true rfl⟩ (c_X9_keep_5 l Y N0 ad_15 sh_16 g_23 hS (u 0 8) ((show g_23 100 8 = g_22 100 8 from (by rw [hg_23]; exact zm_wn _ _ (Or.inl (by omega)))).trans ((show g_22 100 8 = g_21 100 8 from (by rw [hg_22]; exact zm_wn _ _ (Or.inl (by omega)))).trans ((show g_21 100 8 = g_17 100 8 from (by rw [hg_21]; exact zm_wn _ _ (Or.inl (by omega)))).trans ((show g_17 100 8 = g 100 8 from (by rw [hg_17, va_up_ne _ _ (by omega)])).trans (hN0 _ _ _ _ rfl))))) h8 (show sh_16 107 = some (.inr (3, 150, some (zc_sf (zn (u 0 8))))) from (by rw [hsh_16]; exact (va_up_ne _ _ (by omega)).trans hR.2.2.2.2.1)) (show sh_16 (200 + 2 * zn (u 0 8)) = some (.inl (5, [none, none, none])) from (by rw [hsh_16]; exact va_up_self _ _ _))) (fun v9 ad9 sh9 g9 H locs hp hW => ?_)
          obtain ⟨rfl, rfl, rfl, rfl⟩ := hp
          obtain ⟨sh_24, hsh_24⟩ : ∃ z : Nat → Option zw_Sh, z = va_up sh_16 107 (some (.inr (3, 150, some (zc_sf (zn (u 0 8) + 1))))) := ⟨_, rfl⟩
          obtain ⟨g_25, hg_25⟩ : ∃ z : zm_T, z = zm_w g_23 100 8 (u 0 8 + 1) := ⟨_, rfl⟩
          rw [← hsh_24, ← hg_25] at hW
          have hN9 : zc_N g_25 (zs_mk u (zs_v 1 (u 3 2) 2 (-1) (u 1 2) 0 0 0 0 0)) := by
            have e : u 0 8 = u 0 8 := by rfl
            rw [hg_25, ← e]; exact zc_Nmk hN _
          have e8 : zn (u 0 8) = zn (u 0 8) := by rfl
          have hu9 : ∀ r i : Nat, (r = 20 ∨ r = 22 ∨ r = 23 ∨ r = 24 ∨ r = 29 ∨ (r = 0 ∧ i = 28) ∨ (9 ≤ r ∧ r ≤ 18 ∧ i ≠ zn (u 0 8))) → zs_mk u (zs_v 1 (u 3 2) 2 (-1) (u 1 2) 0 0 0 0 0) r i = u r i := fun r i h => by
            rw [zs_mku u _ r i (by rw [e8]; exact h)]
          have hvv : ∀ r : Nat, 9 ≤ r ∧ r ≤ 18 → zs_mk u (zs_v 1 (u 3 2) 2 (-1) (u 1 2) 0 0 0 0 0) r (zn (u 0 8)) = (zs_v 1 (u 3 2) 2 (-1) (u 1 2) 0 0 0 0 0) r := fun r h => by rw [← e8]; exact zs_mkn u _ h
          have hsl9 : zc_sl sh_24 g_25 (zs_mk u (zs_v 1 (u 3 2) 2 (-1) (u 1 2) 0 0 0 0 0)) (zn (u 0 8)) := by
            unfold zc_sl
            rw [hvv 9 (by decide), hvv 10 (by decide), hvv 11 (by decide), hvv 12 (by decide), hvv 13 (by decide), hvv 14 (by decide), hvv 15 (by decide), hvv 16 (by decide), hvv 17 (by decide), hvv 18 (by decide)]
            exact ⟨fun _ => ⟨(show sh_24 (200 + 2 * zn (u 0 8)) = some (.inl (5, [none, none, none])) from (by rw [hsh_24]; exact (va_up_ne _ _ (by omega)).trans (show sh_16 (200 + 2 * zn (u 0 8)) = some (.inl (5, [none, none, none])) from (by rw [hsh_16]; exact va_up_self _ _ _)))), ((show g_25 (200 + 2 * zn (u 0 8)) 0 = g_23 (200 + 2 * zn (u 0 8)) 0 from (by rw [hg_25, zm_wn _ _ (Or.inl (by omega))])).trans ((show g_23 (200 + 2 * zn (u 0 8)) 0 = g_22 (200 + 2 * zn (u 0 8)) 0 from (by rw [hg_23]; exact zm_wn _ _ (Or.inr (by decide)))).trans ((show g_22 (200 + 2 * zn (u 0 8)) 0 = g_21 (200 + 2 * zn (u 0 8)) 0 from (by rw [hg_22]; exact zm_wn _ _ (Or.inr (by decide)))).trans (show g_21 (200 + 2 * zn (u 0 8)) 0 = u 3 2 from (by rw [hg_21]; exact zm_ws _ _ _ _))))), ((show g_25 (200 + 2 * zn (u 0 8)) 1 = g_23 (200 + 2 * zn (u 0 8)) 1 from (by rw [hg_25, zm_wn _ _ (Or.inl (by omega))])).trans ((show g_23 (200 + 2 * zn (u 0 8)) 1 = g_22 (200 + 2 * zn (u 0 8)) 1 from (by rw [hg_23]; exact zm_wn _ _ (Or.inr (by decide)))).trans (show g_22 (200 + 2 * zn (u 0 8)) 1 = 2 from (by rw [hg_22]; exact zm_ws _ _ _ _)))), ((show g_25 (200 + 2 * zn (u 0 8)) 2 = g_23 (200 + 2 * zn (u 0 8)) 2 from (by rw [hg_25, zm_wn _ _ (Or.inl (by omega))])).trans (show g_23 (200 + 2 * zn (u 0 8)) 2 = u 1 2 from (by rw [hg_23]; exact zm_ws _ _ _ _)))⟩, fun h => absurd (show (1 : Int32).toInt = 2 from h) (by decide), fun h => absurd (show (1 : Int32).toInt = 3 from h) (by decide), fun h => absurd (show (1 : Int32).toInt = 4 from h) (by decide)⟩
          have hz9 : zn (zs_mk u (zs_v 1 (u 3 2) 2 (-1) (u 1 2) 0 0 0 0 0) 0 8) = zn (u 0 8) + 1 := by have q9 := zs_mkz (u := u) (by exact h8) (zs_v 1 (u 3 2) 2 (-1) (u 1 2) 0 0 0 0 0); rw [q9, e8]
          have hR9 : zc_R sh_24 g_25 (zs_mk u (zs_v 1 (u 3 2) 2 (-1) (u 1 2) 0 0 0 0 0)) := zc_add (n := (zn (u 0 8))) hR rfl hz9 hN9 hu9 (show sh_24 107 = some (.inr (3, 150, some (zc_sf (zn (u 0 8) + 1)))) from (by rw [hsh_24]; exact va_up_self _ _ _)) (fun r h1 h2 h3 => by rw [hsh_24, va_up_ne _ _ (by omega), hsh_16, va_up_ne _ _ (by omega)]) (fun r h1 h2 h3 => by rw [hg_25, zm_wr (by omega), hg_23, zm_wr (by omega), hg_22, zm_wr (by omega), hg_21, zm_wr (by omega), hg_17, va_up_ne _ _ (by omega)]) (fun j hj => by rw [hg_25, zm_wn _ _ (by omega), hg_23, zm_wn _ _ (by omega), hg_22, zm_wn _ _ (by omega), hg_21, zm_wn _ _ (by omega), hg_17, va_up_ne _ _ (by omega)]) hsl9
          have hf9 : zc_fr ad sh g ad_15 sh_24 g_25 := ⟨fun r hr => had_15 r (by omega), fun r hr => ⟨by rw [hsh_24, va_up_ne _ _ (by omega), hsh_16, va_up_ne _ _ (by omega)], by rw [hg_25, zm_wr (by omega), hg_23, zm_wr (by omega), hg_22, zm_wr (by omega), hg_21, zm_wr (by omega), hg_17, va_up_ne _ _ (by omega)]⟩⟩
          have hf8 := hfr
          exact zr_iret X hW dX9_login_80 (Nat.le_of_ble_eq_true rfl) (Nat.le_of_ble_eq_true rfl) ⟨by rw [hsp], by rw [hsp]; exact hR9, ⟨fun r hr => (hf9.1 r hr).trans (hf8.1 r hr), fun r hr => ⟨(hf9.2 r hr).1.trans (hf8.2 r hr).1, (hf9.2 r hr).2.trans (hf8.2 r hr).2⟩⟩⟩
        · subst h9
          have h_3 : ¬ ((u 0 2).toInt + 0 ≤ 200 ∧ (u 0 8).toInt + 1 ≤ 150) := h_3
          refine zr_if_ne (a := 0) (tgt := 41) X dX9_login_35 (by decide) (by decide) (fun c9 => absurd c9 (by decide)) (fun _ => ?_)
          refine lv_bipush (v := (-7)) X.1 X.2.1 dX9_login_38 (by decide) ?_
          have e9 : sp_login 2 t u = ((-7), u) := (by unfold sp_login; simp only [show zn (2 : Int32) = 2 from rfl]; (first | refine (if_neg (fun h9 => h9 ⟨by decide, by omega⟩)).trans ?_ | refine (if_pos (fun h9 => by obtain ⟨-, h9⟩ := h9; omega)).trans ?_ | refine (if_pos (by omega)).trans ?_); (repeat (first | refine (if_pos (by omega)).trans ?_ | refine (if_neg (by omega)).trans ?_)); rfl)
          exact zr_iret X hW dX9_login_40 (Nat.le_of_ble_eq_true rfl) (Nat.le_of_ble_eq_true rfl) ⟨by rw [e9], by rw [e9]; exact hR, zc_fr0⟩
      · subst h9
        have h_2 : ¬ (zi_in t 0 1) := h_2
        refine zr_if_ne (a := 0) (tgt := 29) X dX9_login_24 (by decide) (by decide) (fun c9 => absurd c9 (by decide)) (fun _ => ?_)
        refine lv_iconst (v := (-1)) X.1 X.2.1 dX9_login_27 (by decide) ?_
        have e9 : sp_login 2 t u = ((-1), u) := (by unfold sp_login; simp only [show zn (2 : Int32) = 2 from rfl]; (first | refine (if_neg (fun h9 => h9 ⟨by decide, by omega⟩)).trans ?_ | refine (if_pos (fun h9 => by obtain ⟨-, h9⟩ := h9; omega)).trans ?_ | refine (if_pos (by omega)).trans ?_); (repeat (first | refine (if_pos (by omega)).trans ?_ | refine (if_neg (by omega)).trans ?_)); rfl)
        exact zr_iret X hW dX9_login_28 (Nat.le_of_ble_eq_true rfl) (Nat.le_of_ble_eq_true rfl) ⟨by rw [e9], by rw [e9]; exact hR, zc_fr0⟩
  · subst h8
    subst h9
    refine lv_astore_n (lv' := [(3, .ref (ad 116)), (0, .ref (ad 100)), (1, .int 3), (2, .int t)]) X.1 X.2.1 dX9_login_5 rfl hl (by decide) rfl (fun ls hl => ?_)
    refine lv_aload_n X.1 X.2.1 dX9_login_6 rfl (lv_at hl 0 rfl) ?_
    refine lv_ifnull X.1 X.2.1 dX9_login_7 ?_
    have how := zI_ow hI 3 (by omega)
    refine lv_aload_n X.1 X.2.1 dX9_login_10 rfl (lv_at hl 1 rfl) ?_
    refine zr_get (r := 100) (v := .ref (ad 102)) X hW fs_X9_13_8 dX9_login_11 (zc_s100 hS) rfl rfl rfl ?_
    refine lv_iload_n X.1 X.2.1 dX9_login_14 rfl (lv_at hl 2 rfl) ?_
    refine zr_iald (r := 102) (v := u 3 3) X hW dX9_login_15 (zc_s102 hS) rfl rfl (zi_vp (by decide)) ((show g 102 (3 : Int32).toNatClampNeg = g 102 3 from rfl).trans (hN0 _ _ _ _ rfl)) ?_
    refine lv_iconst (v := (-1)) X.1 X.2.1 dX9_login_16 (by decide) ?_
    refine zr_icmp_eq (a := (u 3 3).toInt) (b := (-1)) (tgt := 27) X dX9_login_17 (by decide) rfl (by decide) (fun c_26 => ?_) (fun c_26 => ?_)
    · refine lv_iconst (v := (-1)) X.1 X.2.1 dX9_login_27 (by decide) ?_
      have e9 : sp_login 3 t u = ((-1), u) := (by unfold sp_login; simp only [show zn (3 : Int32) = 3 from rfl]; (first | refine (if_neg (fun h9 => h9 ⟨by decide, by omega⟩)).trans ?_ | refine (if_pos (fun h9 => by obtain ⟨-, h9⟩ := h9; omega)).trans ?_ | refine (if_pos (by omega)).trans ?_); (repeat (first | refine (if_pos (by omega)).trans ?_ | refine (if_neg (by omega)).trans ?_)); rfl)
      exact zr_iret X hW dX9_login_28 (Nat.le_of_ble_eq_true rfl) (Nat.le_of_ble_eq_true rfl) ⟨by rw [e9], by rw [e9]; exact hR, zc_fr0⟩
    · refine lv_iload_n X.1 X.2.1 dX9_login_20 rfl (lv_at hl 3 rfl) ?_
      refine zr_callS (As := [.int t]) (rest := []) X hW hl.1 md_X9_isTarget ms_X9_116 dX9_login_21 rfl rfl (Nat.le_of_ble_eq_true rfl) ⟨Nat.le_of_ble_eq_true rfl, Nat.le_of_ble_eq_true rfl⟩ ⟨Nat.le_of_ble_eq_true rfl, Nat.le_of_ble_eq_true rfl⟩ (c_X9_isTarget l Y N0 ad sh g t) (fun v9 ad9 sh9 g9 H locs hp hW => ?_)
      rcases hp with ⟨rfl, rfl, rfl, ⟨h_27, h9⟩ | ⟨h_27, h9⟩⟩
      · subst h9
        have h_27 : zi_in t 0 1 := h_27
        refine zr_if_ne (a := 1) (tgt := 29) X dX9_login_24 (by decide) (by decide) (fun _ => ?_) (fun c9 => absurd c9 (by decide))
        refine lv_aload_n X.1 X.2.1 dX9_login_29 rfl (lv_at hl 1 rfl) ?_
        refine lv_iconst (v := 0) X.1 X.2.1 dX9_login_30 (by decide) ?_
        refine lv_iconst (v := 1) X.1 X.2.1 dX9_login_31 (by decide) ?_
        refine zr_callV (As := [.int 0, .int 1]) (rest := []) X hW hl.1 md_X9_hasRoom ms_X9_76 dX9_login_32 (zc_s100 hS) rfl rfl rfl rfl (Nat.le_of_ble_eq_true rfl) ⟨Nat.le_of_ble_eq_true rfl, Nat.le_of_ble_eq_true rfl⟩ ⟨Nat.le_of_ble_eq_true rfl, Nat.le_of_ble_eq_true rfl⟩ (c_X9_hasRoom_01 l Y N0 ad sh g u hS hN hI) (fun v9 ad9 sh9 g9 H locs hp hW => ?_)
        rcases hp with ⟨rfl, rfl, rfl, ⟨h_28, h9⟩ | ⟨h_28, h9⟩⟩
        · subst h9
          have h_28 : (u 0 2).toInt + 0 ≤ 200 ∧ (u 0 8).toInt + 1 ≤ 150 := h_28
          refine zr_if_ne (a := 1) (tgt := 41) X dX9_login_35 (by decide) (by decide) (fun _ => ?_) (fun c9 => absurd c9 (by decide))
          refine lv_aload_n X.1 X.2.1 dX9_login_41 rfl (lv_at hl 0 rfl) ?_
          refine lv_aload_n X.1 X.2.1 dX9_login_42 rfl (lv_at hl 1 rfl) ?_
          refine zr_callV (As := []) (rest := [.ref (ad 116)]) X hW hl.1 md_X9_makeNonce ms_X9_119 dX9_login_43 (zc_s100 hS) rfl rfl rfl rfl (Nat.le_of_ble_eq_true rfl) ⟨Nat.le_of_ble_eq_true rfl, Nat.le_of_ble_eq_true rfl⟩ ⟨Nat.le_of_ble_eq_true rfl, Nat.le_of_ble_eq_true rfl⟩ (c_X9_makeNonce l Y N0 ad sh g u hS hN) (fun v9 ad9 sh9 g9 H locs hp hW => ?_)
          obtain ⟨rfl, rfl, _, rfl, rfl, rfl⟩ := hp
          obtain ⟨g_30, hg_30⟩ : ∃ z : zm_T, z = zm_w g 100 11 (u 0 19 + 1) := ⟨_, rfl⟩
          rw [← hg_30] at hW
          obtain ⟨u_31, hu_31⟩ : ∃ z : zm_T, z = zm_w u 0 19 (u 0 19 + 1) := ⟨_, rfl⟩
          have hN : zc_N g_30 u_31 := by rw [hg_30, hu_31]; exact zc_Nw hN rfl _
          refine lv_iload_n X.1 X.2.1 dX9_login_46 rfl (lv_at hl 3 rfl) ?_
          refine lv_aload_n X.1 X.2.1 dX9_login_47 rfl (lv_at hl 1 rfl) ?_
          refine zr_get (r := 100) (v := .ref (ad 102)) X hW fs_X9_13_8 dX9_login_48 (zc_s100 hS) rfl rfl rfl ?_
          refine lv_iload_n X.1 X.2.1 dX9_login_51 rfl (lv_at hl 2 rfl) ?_
          refine zr_iald (r := 102) (v := u 3 3) X hW dX9_login_52 (zc_s102 hS) rfl rfl (zi_vp (by decide)) ((show g_30 102 (3 : Int32).toNatClampNeg = g_30 102 3 from rfl).trans ((show g_30 102 3 = g 102 3 from (by rw [hg_30]; rfl)).trans (hN0 _ _ _ _ rfl))) ?_
          refine zr_callV (As := [.int (u 0 19 + 1), .int t, .int (u 3 3)]) (rest := []) X hW hl.1 md_X8_openRequest ms_X9_122 dX9_login_53 (zc_s116 hS) rfl rfl rfl rfl (Nat.le_of_ble_eq_true rfl) ⟨Nat.le_of_ble_eq_true rfl, Nat.le_of_ble_eq_true rfl⟩ ⟨Nat.le_of_ble_eq_true rfl, Nat.le_of_ble_eq_true rfl⟩ (c_X8_openRequest_1 l Y N0 ad sh g_30 hS (u 0 19 + 1) t (u 3 3)) (fun v9 ad9 sh9 g9 H locs hp hW => ?_)
          obtain ⟨rfl, rfl, rfl, rfl⟩ := hp
          obtain ⟨g_35, hg_35⟩ : ∃ z : zm_T, z = zm_w g_30 116 0 (u 0 19 + 1) := ⟨_, rfl⟩
          obtain ⟨g_36, hg_36⟩ : ∃ z : zm_T, z = zm_w g_35 116 1 t := ⟨_, rfl⟩
          obtain ⟨g_37, hg_37⟩ : ∃ z : zm_T, z = zm_w g_36 116 2 (u 3 3) := ⟨_, rfl⟩
          rw [← hg_35, ← hg_36, ← hg_37] at hW
          obtain ⟨u_38, hu_38⟩ : ∃ z : zm_T, z = zm_w u_31 20 3 (u 0 19 + 1) := ⟨_, rfl⟩
          have hN : zc_N g_35 u_38 := by rw [hg_35, hu_38]; exact zc_Nw hN rfl _
          obtain ⟨u_39, hu_39⟩ : ∃ z : zm_T, z = zm_w u_38 21 3 t := ⟨_, rfl⟩
          have hN : zc_N g_36 u_39 := by rw [hg_36, hu_39]; exact zc_Nw hN rfl _
          have hN : zc_N g_37 u_39 := by rw [hg_37]; exact zc_Nc hN rfl _
          have hR9 : zc_R sh g_37 (zs_rq u 3 t (u 3 3)) := by rw [hg_37, hg_36, hg_35, hg_30]; exact zc_rqR hR (j := 1) (by omega) t (u 3 3)
          have h8 : 0 ≤ ((zs_rq u 3 t (u 3 3)) 0 8).toInt ∧ ((zs_rq u 3 t (u 3 3)) 0 8).toInt < 150 := (show 0 ≤ (u 0 8).toInt ∧ (u 0 8).toInt < 150 by omega)
          have hsp : sp_login 3 t u = ((zs_rq u 3 t (u 3 3)) 0 8, zs_mk (zs_rq u 3 t (u 3 3)) (zs_v 1 ((zs_rq u 3 t (u 3 3)) 3 3) 3 (-1) ((zs_rq u 3 t (u 3 3)) 1 3) 0 0 0 0 0)) := (by unfold sp_login; simp only [show zn (3 : Int32) = 3 from rfl]; (first | refine (if_neg (fun h9 => h9 ⟨by decide, by omega⟩)).trans ?_ | refine (if_pos (fun h9 => by obtain ⟨-, h9⟩ := h9; omega)).trans ?_ | refine (if_pos (by omega)).trans ?_); (repeat (first | refine (if_pos (by omega)).trans ?_ | refine (if_neg (by omega)).trans ?_)); rfl)
          have hfr : zc_fr ad sh g ad sh g_37 := zc_fr1 (fun r h => by rw [hg_37, zm_wr (by omega), hg_36, zm_wr (by omega), hg_35, zm_wr (by omega), hg_30, zm_wr (by omega)])
          clear hN hN0
          generalize (zs_rq u 3 t (u 3 3)) = v1 at hR9 h8 hsp
          obtain ⟨u, rfl⟩ : ∃ z : zm_T, z = v1 := ⟨_, rfl⟩
          skip
          skip
          skip
          clear hg_37 hg_36 hg_35 hg_30
          obtain ⟨g, rfl⟩ : ∃ z : zm_T, z = g_37 := ⟨_, rfl⟩
          have hR := hR9
          clear hR9
          have hS := hR.1
          have hN0 := hR.2.1
          have hN := hR.2.1
          refine lv_aload_n X.1 X.2.1 dX9_login_56 rfl (lv_at hl 1 rfl) ?_
          refine zr_new (ss := [none, none, none]) X hW cs_X5 ns_X9_126 dX9_login_57 ds_X5 (by intro r h; simp at h) (200 + 2 * zn (u 0 8)) (hR.2.2.2.2.2.2.1 (200 + 2 * zn (u 0 8)) (by omega)) (Nat.le_of_ble_eq_true rfl) (Nat.le_of_ble_eq_true rfl) (fun ad_40 H had_40 hW => ?_)
          obtain ⟨sh_41, hsh_41⟩ : ∃ z : Nat → Option zw_Sh, z = va_up sh (200 + 2 * zn (u 0 8)) (some (.inl (5, [none, none, none]))) := ⟨_, rfl⟩
          obtain ⟨g_42, hg_42⟩ : ∃ z : zm_T, z = va_up g (200 + 2 * zn (u 0 8)) (fun _ => 0) := ⟨_, rfl⟩
          rw [← hsh_41, ← hg_42] at hW
          have hS : zc_S sh_41 := by rw [hsh_41]; exact zc_S200 (by omega) hS
          have hN : zc_N g_42 u := by rw [hg_42]; exact zc_Nv hN (by omega)
          refine lv_dup X.1 X.2.1 dX9_login_60 rfl ?_
          refine lv_aload_n X.1 X.2.1 dX9_login_61 rfl (lv_at hl 1 rfl) ?_
          refine zr_get (r := 100) (v := .ref (ad_40 102)) X hW fs_X9_13_8 dX9_login_62 (zc_s100 hS) (had_40 100 (by omega)) rfl rfl ?_
          refine lv_iload_n X.1 X.2.1 dX9_login_65 rfl (lv_at hl 2 rfl) ?_
          refine zr_iald (r := 102) (v := u 3 3) X hW dX9_login_66 (zc_s102 hS) rfl rfl (zi_vp (by decide)) ((show g_42 102 (3 : Int32).toNatClampNeg = g_42 102 3 from rfl).trans ((show g_42 102 3 = g 102 3 from (by rw [hg_42, va_up_ne _ _ (by omega)])).trans (hN0 _ _ _ _ rfl))) ?_
          refine lv_iload_n X.1 X.2.1 dX9_login_67 rfl (lv_at hl 2 rfl) ?_
          refine lv_aload_n X.1 X.2.1 dX9_login_68 rfl (lv_at hl 1 rfl) ?_
          refine zr_get (r := 100) (v := .ref (ad_40 101)) X hW fs_X9_9_8 dX9_login_69 (zc_s100 hS) (had_40 100 (by omega)) rfl rfl ?_
          refine lv_iload_n X.1 X.2.1 dX9_login_72 rfl (lv_at hl 2 rfl) ?_
          refine zr_iald (r := 101) (v := u 1 3) X hW dX9_login_73 (zc_s101 hS) rfl rfl (zi_vp (by decide)) ((show g_42 101 (3 : Int32).toNatClampNeg = g_42 101 3 from rfl).trans ((show g_42 101 3 = g 101 3 from (by rw [hg_42, va_up_ne _ _ (by omega)])).trans (hN0 _ _ _ _ rfl))) ?_
          refine zr_callI (As := [.int (u 3 3), .int 3, .int (u 1 3)]) (rest := [.ref (ad_40 (200 + 2 * zn (u 0 8))), .ref (ad 100)]) (b := ad_40 (200 + 2 * zn (u 0 8))) X hW hl.1 md_X5_init ms_X9_128 rfl dX9_login_74 rfl rfl (Nat.le_of_ble_eq_true rfl) ⟨Nat.le_of_ble_eq_true rfl, Nat.le_of_ble_eq_true rfl⟩ ⟨Nat.le_of_ble_eq_true rfl, Nat.le_of_ble_eq_true rfl⟩ (c_X5_init l Y N0 ad_40 sh_41 g_42 ((200 + 2 * zn (u 0 8))) (show sh_41 (200 + 2 * zn (u 0 8)) = some (.inl (5, [none, none, none])) from (by rw [hsh_41]; exact va_up_self _ _ _)) (u 3 3) 3 (u 1 3)) (fun v9 ad9 sh9 g9 H locs hp hW => ?_)
          obtain ⟨rfl, rfl, rfl, rfl⟩ := hp
          obtain ⟨g_46, hg_46⟩ : ∃ z : zm_T, z = zm_w g_42 (200 + 2 * zn (u 0 8)) 0 (u 3 3) := ⟨_, rfl⟩
          obtain ⟨g_47, hg_47⟩ : ∃ z : zm_T, z = zm_w g_46 (200 + 2 * zn (u 0 8)) 1 3 := ⟨_, rfl⟩
          obtain ⟨g_48, hg_48⟩ : ∃ z : zm_T, z = zm_w g_47 (200 + 2 * zn (u 0 8)) 2 (u 1 3) := ⟨_, rfl⟩
          rw [← hg_46, ← hg_47, ← hg_48] at hW
          have hN : zc_N g_46 u := by rw [hg_46]; exact zc_Nc hN (zc_lm200 (by omega)) _
          have hN : zc_N g_47 u := by rw [hg_47]; exact zc_Nc hN (zc_lm200 (by omega)) _
          have hN : zc_N g_48 u := by rw [hg_48]; exact zc_Nc hN (zc_lm200 (by omega)) _
          refine zr_callV (As := [.ref (ad_40 (200 + 2 * zn (u 0 8)))]) (rest := []) X hW hl.1 md_X9_keep ms_X9_130 dX9_login_77 (zc_s100 hS) rfl rfl rfl (by rw [(had_40 100 (by omega))] <;> rfl) (Nat.le_of_ble_eq_true rfl) ⟨Nat.le_of_ble_eq_true rfl, Nat.le_of_ble_eq_true rfl⟩ ⟨Nat.le_of_ble_eq_true rfl, Nat.le_of_ble_eq_true rfl⟩ (c_X9_keep_5 l Y N0 ad_40 sh_41 g_48 hS (u 0 8) ((show g_48 100 8 = g_47 100 8 from (by rw [hg_48]; exact zm_wn _ _ (Or.inl (by omega)))).trans ((show g_47 100 8 = g_46 100 8 from (by rw [hg_47]; exact zm_wn _ _ (Or.inl (by omega)))).trans ((show g_46 100 8 = g_42 100 8 from (by rw [hg_46]; exact zm_wn _ _ (Or.inl (by omega)))).trans ((show g_42 100 8 = g 100 8 from (by rw [hg_42, va_up_ne _ _ (by omega)])).trans (hN0 _ _ _ _ rfl))))) h8 (show sh_41 107 = some (.inr (3, 150, some (zc_sf (zn (u 0 8))))) from (by rw [hsh_41]; exact (va_up_ne _ _ (by omega)).trans hR.2.2.2.2.1)) (show sh_41 (200 + 2 * zn (u 0 8)) = some (.inl (5, [none, none, none])) from (by rw [hsh_41]; exact va_up_self _ _ _))) (fun v9 ad9 sh9 g9 H locs hp hW => ?_)
          obtain ⟨rfl, rfl, rfl, rfl⟩ := hp
          obtain ⟨sh_49, hsh_49⟩ : ∃ z : Nat → Option zw_Sh, z = va_up sh_41 107 (some (.inr (3, 150, some (zc_sf (zn (u 0 8) + 1))))) := ⟨_, rfl⟩
          obtain ⟨g_50, hg_50⟩ : ∃ z : zm_T, z = zm_w g_48 100 8 (u 0 8 + 1) := ⟨_, rfl⟩
          rw [← hsh_49, ← hg_50] at hW
          have hN9 : zc_N g_50 (zs_mk u (zs_v 1 (u 3 3) 3 (-1) (u 1 3) 0 0 0 0 0)) := by
            have e : u 0 8 = u 0 8 := by rfl
            rw [hg_50, ← e]; exact zc_Nmk hN _
          have e8 : zn (u 0 8) = zn (u 0 8) := by rfl
          have hu9 : ∀ r i : Nat, (r = 20 ∨ r = 22 ∨ r = 23 ∨ r = 24 ∨ r = 29 ∨ (r = 0 ∧ i = 28) ∨ (9 ≤ r ∧ r ≤ 18 ∧ i ≠ zn (u 0 8))) → zs_mk u (zs_v 1 (u 3 3) 3 (-1) (u 1 3) 0 0 0 0 0) r i = u r i := fun r i h => by
            rw [zs_mku u _ r i (by rw [e8]; exact h)]
          have hvv : ∀ r : Nat, 9 ≤ r ∧ r ≤ 18 → zs_mk u (zs_v 1 (u 3 3) 3 (-1) (u 1 3) 0 0 0 0 0) r (zn (u 0 8)) = (zs_v 1 (u 3 3) 3 (-1) (u 1 3) 0 0 0 0 0) r := fun r h => by rw [← e8]; exact zs_mkn u _ h
          have hsl9 : zc_sl sh_49 g_50 (zs_mk u (zs_v 1 (u 3 3) 3 (-1) (u 1 3) 0 0 0 0 0)) (zn (u 0 8)) := by
            unfold zc_sl
            rw [hvv 9 (by decide), hvv 10 (by decide), hvv 11 (by decide), hvv 12 (by decide), hvv 13 (by decide), hvv 14 (by decide), hvv 15 (by decide), hvv 16 (by decide), hvv 17 (by decide), hvv 18 (by decide)]
            exact ⟨fun _ => ⟨(show sh_49 (200 + 2 * zn (u 0 8)) = some (.inl (5, [none, none, none])) from (by rw [hsh_49]; exact (va_up_ne _ _ (by omega)).trans (show sh_41 (200 + 2 * zn (u 0 8)) = some (.inl (5, [none, none, none])) from (by rw [hsh_41]; exact va_up_self _ _ _)))), ((show g_50 (200 + 2 * zn (u 0 8)) 0 = g_48 (200 + 2 * zn (u 0 8)) 0 from (by rw [hg_50, zm_wn _ _ (Or.inl (by omega))])).trans ((show g_48 (200 + 2 * zn (u 0 8)) 0 = g_47 (200 + 2 * zn (u 0 8)) 0 from (by rw [hg_48]; exact zm_wn _ _ (Or.inr (by decide)))).trans ((show g_47 (200 + 2 * zn (u 0 8)) 0 = g_46 (200 + 2 * zn (u 0 8)) 0 from (by rw [hg_47]; exact zm_wn _ _ (Or.inr (by decide)))).trans (show g_46 (200 + 2 * zn (u 0 8)) 0 = u 3 3 from (by rw [hg_46]; exact zm_ws _ _ _ _))))), ((show g_50 (200 + 2 * zn (u 0 8)) 1 = g_48 (200 + 2 * zn (u 0 8)) 1 from (by rw [hg_50, zm_wn _ _ (Or.inl (by omega))])).trans ((show g_48 (200 + 2 * zn (u 0 8)) 1 = g_47 (200 + 2 * zn (u 0 8)) 1 from (by rw [hg_48]; exact zm_wn _ _ (Or.inr (by decide)))).trans (show g_47 (200 + 2 * zn (u 0 8)) 1 = 3 from (by rw [hg_47]; exact zm_ws _ _ _ _)))), ((show g_50 (200 + 2 * zn (u 0 8)) 2 = g_48 (200 + 2 * zn (u 0 8)) 2 from (by rw [hg_50, zm_wn _ _ (Or.inl (by omega))])).trans (show g_48 (200 + 2 * zn (u 0 8)) 2 = u 1 3 from (by rw [hg_48]; exact zm_ws _ _ _ _)))⟩, fun h => absurd (show (1 : Int32).toInt = 2 from h) (by decide), fun h => absurd (show (1 : Int32).toInt = 3 from h) (by decide), fun h => absurd (show (1 : Int32).toInt = 4 from h) (by decide)⟩
          have hz9 : zn (zs_mk u (zs_v 1 (u 3 3) 3 (-1) (u 1 3) 0 0 0 0 0) 0 8) = zn (u 0 8) + 1 := by have q9 := zs_mkz (u := u) (by exact h8) (zs_v 1 (u 3 3) 3 (-1) (u 1 3) 0 0 0 0 0); rw [q9, e8]
          have hR9 : zc_R sh_49 g_50 (zs_mk u (zs_v 1 (u 3 3) 3 (-1) (u 1 3) 0 0 0 0 0)) := zc_add (n := (zn (u 0 8))) hR rfl hz9 hN9 hu9 (show sh_49 107 = some (.inr (3, 150, some (zc_sf (zn (u 0 8) + 1)))) from (by rw [hsh_49]; exact va_up_self _ _ _)) (fun r h1 h2 h3 => by rw [hsh_49, va_up_ne _ _ (by omega), hsh_41, va_up_ne _ _ (by omega)]) (fun r h1 h2 h3 => by rw [hg_50, zm_wr (by omega), hg_48, zm_wr (by omega), hg_47, zm_wr (by omega), hg_46, zm_wr (by omega), hg_42, va_up_ne _ _ (by omega)]) (fun j hj => by rw [hg_50, zm_wn _ _ (by omega), hg_48, zm_wn _ _ (by omega), hg_47, zm_wn _ _ (by omega), hg_46, zm_wn _ _ (by omega), hg_42, va_up_ne _ _ (by omega)]) hsl9
          have hf9 : zc_fr ad sh g ad_40 sh_49 g_50 := ⟨fun r hr => had_40 r (by omega), fun r hr => ⟨by rw [hsh_49, va_up_ne _ _ (by omega), hsh_41, va_up_ne _ _ (by omega)], by rw [hg_50, zm_wr (by omega), hg_48, zm_wr (by omega), hg_47, zm_wr (by omega), hg_46, zm_wr (by omega), hg_42, va_up_ne _ _ (by omega)]⟩⟩
          have hf8 := hfr
          exact zr_iret X hW dX9_login_80 (Nat.le_of_ble_eq_true rfl) (Nat.le_of_ble_eq_true rfl) ⟨by rw [hsp], by rw [hsp]; exact hR9, ⟨fun r hr => (hf9.1 r hr).trans (hf8.1 r hr), fun r hr => ⟨(hf9.2 r hr).1.trans (hf8.2 r hr).1, (hf9.2 r hr).2.trans (hf8.2 r hr).2⟩⟩⟩
        · subst h9
          have h_28 : ¬ ((u 0 2).toInt + 0 ≤ 200 ∧ (u 0 8).toInt + 1 ≤ 150) := h_28
          refine zr_if_ne (a := 0) (tgt := 41) X dX9_login_35 (by decide) (by decide) (fun c9 => absurd c9 (by decide)) (fun _ => ?_)
          refine lv_bipush (v := (-7)) X.1 X.2.1 dX9_login_38 (by decide) ?_
          have e9 : sp_login 3 t u = ((-7), u) := (by unfold sp_login; simp only [show zn (3 : Int32) = 3 from rfl]; (first | refine (if_neg (fun h9 => h9 ⟨by decide, by omega⟩)).trans ?_ | refine (if_pos (fun h9 => by obtain ⟨-, h9⟩ := h9; omega)).trans ?_ | refine (if_pos (by omega)).trans ?_); (repeat (first | refine (if_pos (by omega)).trans ?_ | refine (if_neg (by omega)).trans ?_)); rfl)
          exact zr_iret X hW dX9_login_40 (Nat.le_of_ble_eq_true rfl) (Nat.le_of_ble_eq_true rfl) ⟨by rw [e9], by rw [e9]; exact hR, zc_fr0⟩
      · subst h9
        have h_27 : ¬ (zi_in t 0 1) := h_27
        refine zr_if_ne (a := 0) (tgt := 29) X dX9_login_24 (by decide) (by decide) (fun c9 => absurd c9 (by decide)) (fun _ => ?_)
        refine lv_iconst (v := (-1)) X.1 X.2.1 dX9_login_27 (by decide) ?_
        have e9 : sp_login 3 t u = ((-1), u) := (by unfold sp_login; simp only [show zn (3 : Int32) = 3 from rfl]; (first | refine (if_neg (fun h9 => h9 ⟨by decide, by omega⟩)).trans ?_ | refine (if_pos (fun h9 => by obtain ⟨-, h9⟩ := h9; omega)).trans ?_ | refine (if_pos (by omega)).trans ?_); (repeat (first | refine (if_pos (by omega)).trans ?_ | refine (if_neg (by omega)).trans ?_)); rfl)
        exact zr_iret X hW dX9_login_28 (Nat.le_of_ble_eq_true rfl) (Nat.le_of_ble_eq_true rfl) ⟨by rw [e9], by rw [e9]; exact hR, zc_fr0⟩
  · subst h8
    subst h9
    refine lv_astore_n (lv' := [(3, .ref (ad 117)), (0, .ref (ad 100)), (1, .int 4), (2, .int t)]) X.1 X.2.1 dX9_login_5 rfl hl (by decide) rfl (fun ls hl => ?_)
    refine lv_aload_n X.1 X.2.1 dX9_login_6 rfl (lv_at hl 0 rfl) ?_
    refine lv_ifnull X.1 X.2.1 dX9_login_7 ?_
    have how := zI_ow hI 4 (by omega)
    refine lv_aload_n X.1 X.2.1 dX9_login_10 rfl (lv_at hl 1 rfl) ?_
    refine zr_get (r := 100) (v := .ref (ad 102)) X hW fs_X9_13_8 dX9_login_11 (zc_s100 hS) rfl rfl rfl ?_
    refine lv_iload_n X.1 X.2.1 dX9_login_14 rfl (lv_at hl 2 rfl) ?_
    refine zr_iald (r := 102) (v := u 3 4) X hW dX9_login_15 (zc_s102 hS) rfl rfl (zi_vp (by decide)) ((show g 102 (4 : Int32).toNatClampNeg = g 102 4 from rfl).trans (hN0 _ _ _ _ rfl)) ?_
    refine lv_iconst (v := (-1)) X.1 X.2.1 dX9_login_16 (by decide) ?_
    refine zr_icmp_eq (a := (u 3 4).toInt) (b := (-1)) (tgt := 27) X dX9_login_17 (by decide) rfl (by decide) (fun c_51 => ?_) (fun c_51 => ?_)
    · refine lv_iconst (v := (-1)) X.1 X.2.1 dX9_login_27 (by decide) ?_
      have e9 : sp_login 4 t u = ((-1), u) := (by unfold sp_login; simp only [show zn (4 : Int32) = 4 from rfl]; (first | refine (if_neg (fun h9 => h9 ⟨by decide, by omega⟩)).trans ?_ | refine (if_pos (fun h9 => by obtain ⟨-, h9⟩ := h9; omega)).trans ?_ | refine (if_pos (by omega)).trans ?_); (repeat (first | refine (if_pos (by omega)).trans ?_ | refine (if_neg (by omega)).trans ?_)); rfl)
      exact zr_iret X hW dX9_login_28 (Nat.le_of_ble_eq_true rfl) (Nat.le_of_ble_eq_true rfl) ⟨by rw [e9], by rw [e9]; exact hR, zc_fr0⟩
    · refine lv_iload_n X.1 X.2.1 dX9_login_20 rfl (lv_at hl 3 rfl) ?_
      refine zr_callS (As := [.int t]) (rest := []) X hW hl.1 md_X9_isTarget ms_X9_116 dX9_login_21 rfl rfl (Nat.le_of_ble_eq_true rfl) ⟨Nat.le_of_ble_eq_true rfl, Nat.le_of_ble_eq_true rfl⟩ ⟨Nat.le_of_ble_eq_true rfl, Nat.le_of_ble_eq_true rfl⟩ (c_X9_isTarget l Y N0 ad sh g t) (fun v9 ad9 sh9 g9 H locs hp hW => ?_)
      rcases hp with ⟨rfl, rfl, rfl, ⟨h_52, h9⟩ | ⟨h_52, h9⟩⟩
      · subst h9
        have h_52 : zi_in t 0 1 := h_52
        refine zr_if_ne (a := 1) (tgt := 29) X dX9_login_24 (by decide) (by decide) (fun _ => ?_) (fun c9 => absurd c9 (by decide))
        refine lv_aload_n X.1 X.2.1 dX9_login_29 rfl (lv_at hl 1 rfl) ?_
        refine lv_iconst (v := 0) X.1 X.2.1 dX9_login_30 (by decide) ?_
        refine lv_iconst (v := 1) X.1 X.2.1 dX9_login_31 (by decide) ?_
        refine zr_callV (As := [.int 0, .int 1]) (rest := []) X hW hl.1 md_X9_hasRoom ms_X9_76 dX9_login_32 (zc_s100 hS) rfl rfl rfl rfl (Nat.le_of_ble_eq_true rfl) ⟨Nat.le_of_ble_eq_true rfl, Nat.le_of_ble_eq_true rfl⟩ ⟨Nat.le_of_ble_eq_true rfl, Nat.le_of_ble_eq_true rfl⟩ (c_X9_hasRoom_01 l Y N0 ad sh g u hS hN hI) (fun v9 ad9 sh9 g9 H locs hp hW => ?_)
        rcases hp with ⟨rfl, rfl, rfl, ⟨h_53, h9⟩ | ⟨h_53, h9⟩⟩
        · subst h9
          have h_53 : (u 0 2).toInt + 0 ≤ 200 ∧ (u 0 8).toInt + 1 ≤ 150 := h_53
          refine zr_if_ne (a := 1) (tgt := 41) X dX9_login_35 (by decide) (by decide) (fun _ => ?_) (fun c9 => absurd c9 (by decide))
          refine lv_aload_n X.1 X.2.1 dX9_login_41 rfl (lv_at hl 0 rfl) ?_
          refine lv_aload_n X.1 X.2.1 dX9_login_42 rfl (lv_at hl 1 rfl) ?_
          refine zr_callV (As := []) (rest := [.ref (ad 117)]) X hW hl.1 md_X9_makeNonce ms_X9_119 dX9_login_43 (zc_s100 hS) rfl rfl rfl rfl (Nat.le_of_ble_eq_true rfl) ⟨Nat.le_of_ble_eq_true rfl, Nat.le_of_ble_eq_true rfl⟩ ⟨Nat.le_of_ble_eq_true rfl, Nat.le_of_ble_eq_true rfl⟩ (c_X9_makeNonce l Y N0 ad sh g u hS hN) (fun v9 ad9 sh9 g9 H locs hp hW => ?_)
          obtain ⟨rfl, rfl, _, rfl, rfl, rfl⟩ := hp
          obtain ⟨g_55, hg_55⟩ : ∃ z : zm_T, z = zm_w g 100 11 (u 0 19 + 1) := ⟨_, rfl⟩
          rw [← hg_55] at hW
          obtain ⟨u_56, hu_56⟩ : ∃ z : zm_T, z = zm_w u 0 19 (u 0 19 + 1) := ⟨_, rfl⟩
          have hN : zc_N g_55 u_56 := by rw [hg_55, hu_56]; exact zc_Nw hN rfl _
          refine lv_iload_n X.1 X.2.1 dX9_login_46 rfl (lv_at hl 3 rfl) ?_
          refine lv_aload_n X.1 X.2.1 dX9_login_47 rfl (lv_at hl 1 rfl) ?_
          refine zr_get (r := 100) (v := .ref (ad 102)) X hW fs_X9_13_8 dX9_login_48 (zc_s100 hS) rfl rfl rfl ?_
          refine lv_iload_n X.1 X.2.1 dX9_login_51 rfl (lv_at hl 2 rfl) ?_
          refine zr_iald (r := 102) (v := u 3 4) X hW dX9_login_52 (zc_s102 hS) rfl rfl (zi_vp (by decide)) ((show g_55 102 (4 : Int32).toNatClampNeg = g_55 102 4 from rfl).trans ((show g_55 102 4 = g 102 4 from (by rw [hg_55]; rfl)).trans (hN0 _ _ _ _ rfl))) ?_
          refine zr_callV (As := [.int (u 0 19 + 1), .int t, .int (u 3 4)]) (rest := []) X hW hl.1 md_X8_openRequest ms_X9_122 dX9_login_53 (zc_s117 hS) rfl rfl rfl rfl (Nat.le_of_ble_eq_true rfl) ⟨Nat.le_of_ble_eq_true rfl, Nat.le_of_ble_eq_true rfl⟩ ⟨Nat.le_of_ble_eq_true rfl, Nat.le_of_ble_eq_true rfl⟩ (c_X8_openRequest_2 l Y N0 ad sh g_55 hS (u 0 19 + 1) t (u 3 4)) (fun v9 ad9 sh9 g9 H locs hp hW => ?_)
          obtain ⟨rfl, rfl, rfl, rfl⟩ := hp
          obtain ⟨g_60, hg_60⟩ : ∃ z : zm_T, z = zm_w g_55 117 0 (u 0 19 + 1) := ⟨_, rfl⟩
          obtain ⟨g_61, hg_61⟩ : ∃ z : zm_T, z = zm_w g_60 117 1 t := ⟨_, rfl⟩
          obtain ⟨g_62, hg_62⟩ : ∃ z : zm_T, z = zm_w g_61 117 2 (u 3 4) := ⟨_, rfl⟩
          rw [← hg_60, ← hg_61, ← hg_62] at hW
          obtain ⟨u_63, hu_63⟩ : ∃ z : zm_T, z = zm_w u_56 20 4 (u 0 19 + 1) := ⟨_, rfl⟩
          have hN : zc_N g_60 u_63 := by rw [hg_60, hu_63]; exact zc_Nw hN rfl _
          obtain ⟨u_64, hu_64⟩ : ∃ z : zm_T, z = zm_w u_63 21 4 t := ⟨_, rfl⟩
          have hN : zc_N g_61 u_64 := by rw [hg_61, hu_64]; exact zc_Nw hN rfl _
          have hN : zc_N g_62 u_64 := by rw [hg_62]; exact zc_Nc hN rfl _
          have hR9 : zc_R sh g_62 (zs_rq u 4 t (u 3 4)) := by rw [hg_62, hg_61, hg_60, hg_55]; exact zc_rqR hR (j := 2) (by omega) t (u 3 4)
          have h8 : 0 ≤ ((zs_rq u 4 t (u 3 4)) 0 8).toInt ∧ ((zs_rq u 4 t (u 3 4)) 0 8).toInt < 150 := (show 0 ≤ (u 0 8).toInt ∧ (u 0 8).toInt < 150 by omega)
          have hsp : sp_login 4 t u = ((zs_rq u 4 t (u 3 4)) 0 8, zs_mk (zs_rq u 4 t (u 3 4)) (zs_v 1 ((zs_rq u 4 t (u 3 4)) 3 4) 4 (-1) ((zs_rq u 4 t (u 3 4)) 1 4) 0 0 0 0 0)) := (by unfold sp_login; simp only [show zn (4 : Int32) = 4 from rfl]; (first | refine (if_neg (fun h9 => h9 ⟨by decide, by omega⟩)).trans ?_ | refine (if_pos (fun h9 => by obtain ⟨-, h9⟩ := h9; omega)).trans ?_ | refine (if_pos (by omega)).trans ?_); (repeat (first | refine (if_pos (by omega)).trans ?_ | refine (if_neg (by omega)).trans ?_)); rfl)
          have hfr : zc_fr ad sh g ad sh g_62 := zc_fr1 (fun r h => by rw [hg_62, zm_wr (by omega), hg_61, zm_wr (by omega), hg_60, zm_wr (by omega), hg_55, zm_wr (by omega)])
          clear hN hN0
          generalize (zs_rq u 4 t (u 3 4)) = v1 at hR9 h8 hsp
          obtain ⟨u, rfl⟩ : ∃ z : zm_T, z = v1 := ⟨_, rfl⟩
          skip
          skip
          skip
          clear hg_62 hg_61 hg_60 hg_55
          obtain ⟨g, rfl⟩ : ∃ z : zm_T, z = g_62 := ⟨_, rfl⟩
          have hR := hR9
          clear hR9
          have hS := hR.1
          have hN0 := hR.2.1
          have hN := hR.2.1
          refine lv_aload_n X.1 X.2.1 dX9_login_56 rfl (lv_at hl 1 rfl) ?_
          refine zr_new (ss := [none, none, none]) X hW cs_X5 ns_X9_126 dX9_login_57 ds_X5 (by intro r h; simp at h) (200 + 2 * zn (u 0 8)) (hR.2.2.2.2.2.2.1 (200 + 2 * zn (u 0 8)) (by omega)) (Nat.le_of_ble_eq_true rfl) (Nat.le_of_ble_eq_true rfl) (fun ad_65 H had_65 hW => ?_)
          obtain ⟨sh_66, hsh_66⟩ : ∃ z : Nat → Option zw_Sh, z = va_up sh (200 + 2 * zn (u 0 8)) (some (.inl (5, [none, none, none]))) := ⟨_, rfl⟩
          obtain ⟨g_67, hg_67⟩ : ∃ z : zm_T, z = va_up g (200 + 2 * zn (u 0 8)) (fun _ => 0) := ⟨_, rfl⟩
          rw [← hsh_66, ← hg_67] at hW
          have hS : zc_S sh_66 := by rw [hsh_66]; exact zc_S200 (by omega) hS
          have hN : zc_N g_67 u := by rw [hg_67]; exact zc_Nv hN (by omega)
          refine lv_dup X.1 X.2.1 dX9_login_60 rfl ?_
          refine lv_aload_n X.1 X.2.1 dX9_login_61 rfl (lv_at hl 1 rfl) ?_
          refine zr_get (r := 100) (v := .ref (ad_65 102)) X hW fs_X9_13_8 dX9_login_62 (zc_s100 hS) (had_65 100 (by omega)) rfl rfl ?_
          refine lv_iload_n X.1 X.2.1 dX9_login_65 rfl (lv_at hl 2 rfl) ?_
          refine zr_iald (r := 102) (v := u 3 4) X hW dX9_login_66 (zc_s102 hS) rfl rfl (zi_vp (by decide)) ((show g_67 102 (4 : Int32).toNatClampNeg = g_67 102 4 from rfl).trans ((show g_67 102 4 = g 102 4 from (by rw [hg_67, va_up_ne _ _ (by omega)])).trans (hN0 _ _ _ _ rfl))) ?_
          refine lv_iload_n X.1 X.2.1 dX9_login_67 rfl (lv_at hl 2 rfl) ?_
          refine lv_aload_n X.1 X.2.1 dX9_login_68 rfl (lv_at hl 1 rfl) ?_
          refine zr_get (r := 100) (v := .ref (ad_65 101)) X hW fs_X9_9_8 dX9_login_69 (zc_s100 hS) (had_65 100 (by omega)) rfl rfl ?_
          refine lv_iload_n X.1 X.2.1 dX9_login_72 rfl (lv_at hl 2 rfl) ?_
          refine zr_iald (r := 101) (v := u 1 4) X hW dX9_login_73 (zc_s101 hS) rfl rfl (zi_vp (by decide)) ((show g_67 101 (4 : Int32).toNatClampNeg = g_67 101 4 from rfl).trans ((show g_67 101 4 = g 101 4 from (by rw [hg_67, va_up_ne _ _ (by omega)])).trans (hN0 _ _ _ _ rfl))) ?_
          refine zr_callI (As := [.int (u 3 4), .int 4, .int (u 1 4)]) (rest := [.ref (ad_65 (200 + 2 * zn (u 0 8))), .ref (ad 100)]) (b := ad_65 (200 + 2 * zn (u 0 8))) X hW hl.1 md_X5_init ms_X9_128 rfl dX9_login_74 rfl rfl (Nat.le_of_ble_eq_true rfl) ⟨Nat.le_of_ble_eq_true rfl, Nat.le_of_ble_eq_true rfl⟩ ⟨Nat.le_of_ble_eq_true rfl, Nat.le_of_ble_eq_true rfl⟩ (c_X5_init l Y N0 ad_65 sh_66 g_67 ((200 + 2 * zn (u 0 8))) (show sh_66 (200 + 2 * zn (u 0 8)) = some (.inl (5, [none, none, none])) from (by rw [hsh_66]; exact va_up_self _ _ _)) (u 3 4) 4 (u 1 4)) (fun v9 ad9 sh9 g9 H locs hp hW => ?_)
          obtain ⟨rfl, rfl, rfl, rfl⟩ := hp
          obtain ⟨g_71, hg_71⟩ : ∃ z : zm_T, z = zm_w g_67 (200 + 2 * zn (u 0 8)) 0 (u 3 4) := ⟨_, rfl⟩
          obtain ⟨g_72, hg_72⟩ : ∃ z : zm_T, z = zm_w g_71 (200 + 2 * zn (u 0 8)) 1 4 := ⟨_, rfl⟩
          obtain ⟨g_73, hg_73⟩ : ∃ z : zm_T, z = zm_w g_72 (200 + 2 * zn (u 0 8)) 2 (u 1 4) := ⟨_, rfl⟩
          rw [← hg_71, ← hg_72, ← hg_73] at hW
          have hN : zc_N g_71 u := by rw [hg_71]; exact zc_Nc hN (zc_lm200 (by omega)) _
          have hN : zc_N g_72 u := by rw [hg_72]; exact zc_Nc hN (zc_lm200 (by omega)) _
          have hN : zc_N g_73 u := by rw [hg_73]; exact zc_Nc hN (zc_lm200 (by omega)) _
          refine zr_callV (As := [.ref (ad_65 (200 + 2 * zn (u 0 8)))]) (rest := []) X hW hl.1 md_X9_keep ms_X9_130 dX9_login_77 (zc_s100 hS) rfl rfl rfl (by rw [(had_65 100 (by omega))] <;> rfl) (Nat.le_of_ble_eq_true rfl) ⟨Nat.le_of_ble_eq_true rfl, Nat.le_of_ble_eq_true rfl⟩ ⟨Nat.le_of_ble_eq_true rfl, Nat.le_of_ble_eq_true rfl⟩ (c_X9_keep_5 l Y N0 ad_65 sh_66 g_73 hS (u 0 8) ((show g_73 100 8 = g_72 100 8 from (by rw [hg_73]; exact zm_wn _ _ (Or.inl (by omega)))).trans ((show g_72 100 8 = g_71 100 8 from (by rw [hg_72]; exact zm_wn _ _ (Or.inl (by omega)))).trans ((show g_71 100 8 = g_67 100 8 from (by rw [hg_71]; exact zm_wn _ _ (Or.inl (by omega)))).trans ((show g_67 100 8 = g 100 8 from (by rw [hg_67, va_up_ne _ _ (by omega)])).trans (hN0 _ _ _ _ rfl))))) h8 (show sh_66 107 = some (.inr (3, 150, some (zc_sf (zn (u 0 8))))) from (by rw [hsh_66]; exact (va_up_ne _ _ (by omega)).trans hR.2.2.2.2.1)) (show sh_66 (200 + 2 * zn (u 0 8)) = some (.inl (5, [none, none, none])) from (by rw [hsh_66]; exact va_up_self _ _ _))) (fun v9 ad9 sh9 g9 H locs hp hW => ?_)
          obtain ⟨rfl, rfl, rfl, rfl⟩ := hp
          obtain ⟨sh_74, hsh_74⟩ : ∃ z : Nat → Option zw_Sh, z = va_up sh_66 107 (some (.inr (3, 150, some (zc_sf (zn (u 0 8) + 1))))) := ⟨_, rfl⟩
          obtain ⟨g_75, hg_75⟩ : ∃ z : zm_T, z = zm_w g_73 100 8 (u 0 8 + 1) := ⟨_, rfl⟩
          rw [← hsh_74, ← hg_75] at hW
          have hN9 : zc_N g_75 (zs_mk u (zs_v 1 (u 3 4) 4 (-1) (u 1 4) 0 0 0 0 0)) := by
            have e : u 0 8 = u 0 8 := by rfl
            rw [hg_75, ← e]; exact zc_Nmk hN _
          have e8 : zn (u 0 8) = zn (u 0 8) := by rfl
          have hu9 : ∀ r i : Nat, (r = 20 ∨ r = 22 ∨ r = 23 ∨ r = 24 ∨ r = 29 ∨ (r = 0 ∧ i = 28) ∨ (9 ≤ r ∧ r ≤ 18 ∧ i ≠ zn (u 0 8))) → zs_mk u (zs_v 1 (u 3 4) 4 (-1) (u 1 4) 0 0 0 0 0) r i = u r i := fun r i h => by
            rw [zs_mku u _ r i (by rw [e8]; exact h)]
          have hvv : ∀ r : Nat, 9 ≤ r ∧ r ≤ 18 → zs_mk u (zs_v 1 (u 3 4) 4 (-1) (u 1 4) 0 0 0 0 0) r (zn (u 0 8)) = (zs_v 1 (u 3 4) 4 (-1) (u 1 4) 0 0 0 0 0) r := fun r h => by rw [← e8]; exact zs_mkn u _ h
          have hsl9 : zc_sl sh_74 g_75 (zs_mk u (zs_v 1 (u 3 4) 4 (-1) (u 1 4) 0 0 0 0 0)) (zn (u 0 8)) := by
            unfold zc_sl
            rw [hvv 9 (by decide), hvv 10 (by decide), hvv 11 (by decide), hvv 12 (by decide), hvv 13 (by decide), hvv 14 (by decide), hvv 15 (by decide), hvv 16 (by decide), hvv 17 (by decide), hvv 18 (by decide)]
            exact ⟨fun _ => ⟨(show sh_74 (200 + 2 * zn (u 0 8)) = some (.inl (5, [none, none, none])) from (by rw [hsh_74]; exact (va_up_ne _ _ (by omega)).trans (show sh_66 (200 + 2 * zn (u 0 8)) = some (.inl (5, [none, none, none])) from (by rw [hsh_66]; exact va_up_self _ _ _)))), ((show g_75 (200 + 2 * zn (u 0 8)) 0 = g_73 (200 + 2 * zn (u 0 8)) 0 from (by rw [hg_75, zm_wn _ _ (Or.inl (by omega))])).trans ((show g_73 (200 + 2 * zn (u 0 8)) 0 = g_72 (200 + 2 * zn (u 0 8)) 0 from (by rw [hg_73]; exact zm_wn _ _ (Or.inr (by decide)))).trans ((show g_72 (200 + 2 * zn (u 0 8)) 0 = g_71 (200 + 2 * zn (u 0 8)) 0 from (by rw [hg_72]; exact zm_wn _ _ (Or.inr (by decide)))).trans (show g_71 (200 + 2 * zn (u 0 8)) 0 = u 3 4 from (by rw [hg_71]; exact zm_ws _ _ _ _))))), ((show g_75 (200 + 2 * zn (u 0 8)) 1 = g_73 (200 + 2 * zn (u 0 8)) 1 from (by rw [hg_75, zm_wn _ _ (Or.inl (by omega))])).trans ((show g_73 (200 + 2 * zn (u 0 8)) 1 = g_72 (200 + 2 * zn (u 0 8)) 1 from (by rw [hg_73]; exact zm_wn _ _ (Or.inr (by decide)))).trans (show g_72 (200 + 2 * zn (u 0 8)) 1 = 4 from (by rw [hg_72]; exact zm_ws _ _ _ _)))), ((show g_75 (200 + 2 * zn (u 0 8)) 2 = g_73 (200 + 2 * zn (u 0 8)) 2 from (by rw [hg_75, zm_wn _ _ (Or.inl (by omega))])).trans (show g_73 (200 + 2 * zn (u 0 8)) 2 = u 1 4 from (by rw [hg_73]; exact zm_ws _ _ _ _)))⟩, fun h => absurd (show (1 : Int32).toInt = 2 from h) (by decide), fun h => absurd (show (1 : Int32).toInt = 3 from h) (by decide), fun h => absurd (show (1 : Int32).toInt = 4 from h) (by decide)⟩
          have hz9 : zn (zs_mk u (zs_v 1 (u 3 4) 4 (-1) (u 1 4) 0 0 0 0 0) 0 8) = zn (u 0 8) + 1 := by have q9 := zs_mkz (u := u) (by exact h8) (zs_v 1 (u 3 4) 4 (-1) (u 1 4) 0 0 0 0 0); rw [q9, e8]
          have hR9 : zc_R sh_74 g_75 (zs_mk u (zs_v 1 (u 3 4) 4 (-1) (u 1 4) 0 0 0 0 0)) := zc_add (n := (zn (u 0 8))) hR rfl hz9 hN9 hu9 (show sh_74 107 = some (.inr (3, 150, some (zc_sf (zn (u 0 8) + 1)))) from (by rw [hsh_74]; exact va_up_self _ _ _)) (fun r h1 h2 h3 => by rw [hsh_74, va_up_ne _ _ (by omega), hsh_66, va_up_ne _ _ (by omega)]) (fun r h1 h2 h3 => by rw [hg_75, zm_wr (by omega), hg_73, zm_wr (by omega), hg_72, zm_wr (by omega), hg_71, zm_wr (by omega), hg_67, va_up_ne _ _ (by omega)]) (fun j hj => by rw [hg_75, zm_wn _ _ (by omega), hg_73, zm_wn _ _ (by omega), hg_72, zm_wn _ _ (by omega), hg_71, zm_wn _ _ (by omega), hg_67, va_up_ne _ _ (by omega)]) hsl9
          have hf9 : zc_fr ad sh g ad_65 sh_74 g_75 := ⟨fun r hr => had_65 r (by omega), fun r hr => ⟨by rw [hsh_74, va_up_ne _ _ (by omega), hsh_66, va_up_ne _ _ (by omega)], by rw [hg_75, zm_wr (by omega), hg_73, zm_wr (by omega), hg_72, zm_wr (by omega), hg_71, zm_wr (by omega), hg_67, va_up_ne _ _ (by omega)]⟩⟩
          have hf8 := hfr
          exact zr_iret X hW dX9_login_80 (Nat.le_of_ble_eq_true rfl) (Nat.le_of_ble_eq_true rfl) ⟨by rw [hsp], by rw [hsp]; exact hR9, ⟨fun r hr => (hf9.1 r hr).trans (hf8.1 r hr), fun r hr => ⟨(hf9.2 r hr).1.trans (hf8.2 r hr).1, (hf9.2 r hr).2.trans (hf8.2 r hr).2⟩⟩⟩
        · subst h9
          have h_53 : ¬ ((u 0 2).toInt + 0 ≤ 200 ∧ (u 0 8).toInt + 1 ≤ 150) := h_53
          refine zr_if_ne (a := 0) (tgt := 41) X dX9_login_35 (by decide) (by decide) (fun c9 => absurd c9 (by decide)) (fun _ => ?_)
          refine lv_bipush (v := (-7)) X.1 X.2.1 dX9_login_38 (by decide) ?_
          have e9 : sp_login 4 t u = ((-7), u) := (by unfold sp_login; simp only [show zn (4 : Int32) = 4 from rfl]; (first | refine (if_neg (fun h9 => h9 ⟨by decide, by omega⟩)).trans ?_ | refine (if_pos (fun h9 => by obtain ⟨-, h9⟩ := h9; omega)).trans ?_ | refine (if_pos (by omega)).trans ?_); (repeat (first | refine (if_pos (by omega)).trans ?_ | refine (if_neg (by omega)).trans ?_)); rfl)
          exact zr_iret X hW dX9_login_40 (Nat.le_of_ble_eq_true rfl) (Nat.le_of_ble_eq_true rfl) ⟨by rw [e9], by rw [e9]; exact hR, zc_fr0⟩
      · subst h9
        have h_52 : ¬ (zi_in t 0 1) := h_52
        refine zr_if_ne (a := 0) (tgt := 29) X dX9_login_24 (by decide) (by decide) (fun c9 => absurd c9 (by decide)) (fun _ => ?_)
        refine lv_iconst (v := (-1)) X.1 X.2.1 dX9_login_27 (by decide) ?_
        have e9 : sp_login 4 t u = ((-1), u) := (by unfold sp_login; simp only [show zn (4 : Int32) = 4 from rfl]; (first | refine (if_neg (fun h9 => h9 ⟨by decide, by omega⟩)).trans ?_ | refine (if_pos (fun h9 => by obtain ⟨-, h9⟩ := h9; omega)).trans ?_ | refine (if_pos (by omega)).trans ?_); (repeat (first | refine (if_pos (by omega)).trans ?_ | refine (if_neg (by omega)).trans ?_)); rfl)
        exact zr_iret X hW dX9_login_28 (Nat.le_of_ble_eq_true rfl) (Nat.le_of_ble_eq_true rfl) ⟨by rw [e9], by rw [e9]; exact hR, zc_fr0⟩
  · subst h8
    subst h9
    refine lv_astore_n (lv' := [(3, .ref (ad 118)), (0, .ref (ad 100)), (1, .int 5), (2, .int t)]) X.1 X.2.1 dX9_login_5 rfl hl (by decide) rfl (fun ls hl => ?_)
    refine lv_aload_n X.1 X.2.1 dX9_login_6 rfl (lv_at hl 0 rfl) ?_
    refine lv_ifnull X.1 X.2.1 dX9_login_7 ?_
    have how := zI_ow hI 5 (by omega)
    refine lv_aload_n X.1 X.2.1 dX9_login_10 rfl (lv_at hl 1 rfl) ?_
    refine zr_get (r := 100) (v := .ref (ad 102)) X hW fs_X9_13_8 dX9_login_11 (zc_s100 hS) rfl rfl rfl ?_
    refine lv_iload_n X.1 X.2.1 dX9_login_14 rfl (lv_at hl 2 rfl) ?_
    refine zr_iald (r := 102) (v := u 3 5) X hW dX9_login_15 (zc_s102 hS) rfl rfl (zi_vp (by decide)) ((show g 102 (5 : Int32).toNatClampNeg = g 102 5 from rfl).trans (hN0 _ _ _ _ rfl)) ?_
    refine lv_iconst (v := (-1)) X.1 X.2.1 dX9_login_16 (by decide) ?_
    refine zr_icmp_eq (a := (u 3 5).toInt) (b := (-1)) (tgt := 27) X dX9_login_17 (by decide) rfl (by decide) (fun c_76 => ?_) (fun c_76 => ?_)
    · refine lv_iconst (v := (-1)) X.1 X.2.1 dX9_login_27 (by decide) ?_
      have e9 : sp_login 5 t u = ((-1), u) := (by unfold sp_login; simp only [show zn (5 : Int32) = 5 from rfl]; (first | refine (if_neg (fun h9 => h9 ⟨by decide, by omega⟩)).trans ?_ | refine (if_pos (fun h9 => by obtain ⟨-, h9⟩ := h9; omega)).trans ?_ | refine (if_pos (by omega)).trans ?_); (repeat (first | refine (if_pos (by omega)).trans ?_ | refine (if_neg (by omega)).trans ?_)); rfl)
      exact zr_iret X hW dX9_login_28 (Nat.le_of_ble_eq_true rfl) (Nat.le_of_ble_eq_true rfl) ⟨by rw [e9], by rw [e9]; exact hR, zc_fr0⟩
    · refine lv_iload_n X.1 X.2.1 dX9_login_20 rfl (lv_at hl 3 rfl) ?_
      refine zr_callS (As := [.int t]) (rest := []) X hW hl.1 md_X9_isTarget ms_X9_116 dX9_login_21 rfl rfl (Nat.le_of_ble_eq_true rfl) ⟨Nat.le_of_ble_eq_true rfl, Nat.le_of_ble_eq_true rfl⟩ ⟨Nat.le_of_ble_eq_true rfl, Nat.le_of_ble_eq_true rfl⟩ (c_X9_isTarget l Y N0 ad sh g t) (fun v9 ad9 sh9 g9 H locs hp hW => ?_)
      rcases hp with ⟨rfl, rfl, rfl, ⟨h_77, h9⟩ | ⟨h_77, h9⟩⟩
      · subst h9
        have h_77 : zi_in t 0 1 := h_77
        refine zr_if_ne (a := 1) (tgt := 29) X dX9_login_24 (by decide) (by decide) (fun _ => ?_) (fun c9 => absurd c9 (by decide))
        refine lv_aload_n X.1 X.2.1 dX9_login_29 rfl (lv_at hl 1 rfl) ?_
        refine lv_iconst (v := 0) X.1 X.2.1 dX9_login_30 (by decide) ?_
        refine lv_iconst (v := 1) X.1 X.2.1 dX9_login_31 (by decide) ?_
        refine zr_callV (As := [.int 0, .int 1]) (rest := []) X hW hl.1 md_X9_hasRoom ms_X9_76 dX9_login_32 (zc_s100 hS) rfl rfl rfl rfl (Nat.le_of_ble_eq_true rfl) ⟨Nat.le_of_ble_eq_true rfl, Nat.le_of_ble_eq_true rfl⟩ ⟨Nat.le_of_ble_eq_true rfl, Nat.le_of_ble_eq_true rfl⟩ (c_X9_hasRoom_01 l Y N0 ad sh g u hS hN hI) (fun v9 ad9 sh9 g9 H locs hp hW => ?_)
        rcases hp with ⟨rfl, rfl, rfl, ⟨h_78, h9⟩ | ⟨h_78, h9⟩⟩
        · subst h9
          have h_78 : (u 0 2).toInt + 0 ≤ 200 ∧ (u 0 8).toInt + 1 ≤ 150 := h_78
          refine zr_if_ne (a := 1) (tgt := 41) X dX9_login_35 (by decide) (by decide) (fun _ => ?_) (fun c9 => absurd c9 (by decide))
          refine lv_aload_n X.1 X.2.1 dX9_login_41 rfl (lv_at hl 0 rfl) ?_
          refine lv_aload_n X.1 X.2.1 dX9_login_42 rfl (lv_at hl 1 rfl) ?_
          refine zr_callV (As := []) (rest := [.ref (ad 118)]) X hW hl.1 md_X9_makeNonce ms_X9_119 dX9_login_43 (zc_s100 hS) rfl rfl rfl rfl (Nat.le_of_ble_eq_true rfl) ⟨Nat.le_of_ble_eq_true rfl, Nat.le_of_ble_eq_true rfl⟩ ⟨Nat.le_of_ble_eq_true rfl, Nat.le_of_ble_eq_true rfl⟩ (c_X9_makeNonce l Y N0 ad sh g u hS hN) (fun v9 ad9 sh9 g9 H locs hp hW => ?_)
          obtain ⟨rfl, rfl, _, rfl, rfl, rfl⟩ := hp
          obtain ⟨g_80, hg_80⟩ : ∃ z : zm_T, z = zm_w g 100 11 (u 0 19 + 1) := ⟨_, rfl⟩
          rw [← hg_80] at hW
          obtain ⟨u_81, hu_81⟩ : ∃ z : zm_T, z = zm_w u 0 19 (u 0 19 + 1) := ⟨_, rfl⟩
          have hN : zc_N g_80 u_81 := by rw [hg_80, hu_81]; exact zc_Nw hN rfl _
          refine lv_iload_n X.1 X.2.1 dX9_login_46 rfl (lv_at hl 3 rfl) ?_
          refine lv_aload_n X.1 X.2.1 dX9_login_47 rfl (lv_at hl 1 rfl) ?_
          refine zr_get (r := 100) (v := .ref (ad 102)) X hW fs_X9_13_8 dX9_login_48 (zc_s100 hS) rfl rfl rfl ?_
          refine lv_iload_n X.1 X.2.1 dX9_login_51 rfl (lv_at hl 2 rfl) ?_
          refine zr_iald (r := 102) (v := u 3 5) X hW dX9_login_52 (zc_s102 hS) rfl rfl (zi_vp (by decide)) ((show g_80 102 (5 : Int32).toNatClampNeg = g_80 102 5 from rfl).trans ((show g_80 102 5 = g 102 5 from (by rw [hg_80]; rfl)).trans (hN0 _ _ _ _ rfl))) ?_
          refine zr_callV (As := [.int (u 0 19 + 1), .int t, .int (u 3 5)]) (rest := []) X hW hl.1 md_X8_openRequest ms_X9_122 dX9_login_53 (zc_s118 hS) rfl rfl rfl rfl (Nat.le_of_ble_eq_true rfl) ⟨Nat.le_of_ble_eq_true rfl, Nat.le_of_ble_eq_true rfl⟩ ⟨Nat.le_of_ble_eq_true rfl, Nat.le_of_ble_eq_true rfl⟩ (c_X8_openRequest_3 l Y N0 ad sh g_80 hS (u 0 19 + 1) t (u 3 5)) (fun v9 ad9 sh9 g9 H locs hp hW => ?_)
          obtain ⟨rfl, rfl, rfl, rfl⟩ := hp
          obtain ⟨g_85, hg_85⟩ : ∃ z : zm_T, z = zm_w g_80 118 0 (u 0 19 + 1) := ⟨_, rfl⟩
          obtain ⟨g_86, hg_86⟩ : ∃ z : zm_T, z = zm_w g_85 118 1 t := ⟨_, rfl⟩
          obtain ⟨g_87, hg_87⟩ : ∃ z : zm_T, z = zm_w g_86 118 2 (u 3 5) := ⟨_, rfl⟩
          rw [← hg_85, ← hg_86, ← hg_87] at hW
          obtain ⟨u_88, hu_88⟩ : ∃ z : zm_T, z = zm_w u_81 20 5 (u 0 19 + 1) := ⟨_, rfl⟩
          have hN : zc_N g_85 u_88 := by rw [hg_85, hu_88]; exact zc_Nw hN rfl _
          obtain ⟨u_89, hu_89⟩ : ∃ z : zm_T, z = zm_w u_88 21 5 t := ⟨_, rfl⟩
          have hN : zc_N g_86 u_89 := by rw [hg_86, hu_89]; exact zc_Nw hN rfl _
          have hN : zc_N g_87 u_89 := by rw [hg_87]; exact zc_Nc hN rfl _
          have hR9 : zc_R sh g_87 (zs_rq u 5 t (u 3 5)) := by rw [hg_87, hg_86, hg_85, hg_80]; exact zc_rqR hR (j := 3) (by omega) t (u 3 5)
          have h8 : 0 ≤ ((zs_rq u 5 t (u 3 5)) 0 8).toInt ∧ ((zs_rq u 5 t (u 3 5)) 0 8).toInt < 150 := (show 0 ≤ (u 0 8).toInt ∧ (u 0 8).toInt < 150 by omega)
          have hsp : sp_login 5 t u = ((zs_rq u 5 t (u 3 5)) 0 8, zs_mk (zs_rq u 5 t (u 3 5)) (zs_v 1 ((zs_rq u 5 t (u 3 5)) 3 5) 5 (-1) ((zs_rq u 5 t (u 3 5)) 1 5) 0 0 0 0 0)) := (by unfold sp_login; simp only [show zn (5 : Int32) = 5 from rfl]; (first | refine (if_neg (fun h9 => h9 ⟨by decide, by omega⟩)).trans ?_ | refine (if_pos (fun h9 => by obtain ⟨-, h9⟩ := h9; omega)).trans ?_ | refine (if_pos (by omega)).trans ?_); (repeat (first | refine (if_pos (by omega)).trans ?_ | refine (if_neg (by omega)).trans ?_)); rfl)
          have hfr : zc_fr ad sh g ad sh g_87 := zc_fr1 (fun r h => by rw [hg_87, zm_wr (by omega), hg_86, zm_wr (by omega), hg_85, zm_wr (by omega), hg_80, zm_wr (by omega)])
          clear hN hN0
          generalize (zs_rq u 5 t (u 3 5)) = v1 at hR9 h8 hsp
          obtain ⟨u, rfl⟩ : ∃ z : zm_T, z = v1 := ⟨_, rfl⟩
          skip
          skip
          skip
          clear hg_87 hg_86 hg_85 hg_80
          obtain ⟨g, rfl⟩ : ∃ z : zm_T, z = g_87 := ⟨_, rfl⟩
          have hR := hR9
          clear hR9
          have hS := hR.1
          have hN0 := hR.2.1
          have hN := hR.2.1
          refine lv_aload_n X.1 X.2.1 dX9_login_56 rfl (lv_at hl 1 rfl) ?_
          refine zr_new (ss := [none, none, none]) X hW cs_X5 ns_X9_126 dX9_login_57 ds_X5 (by intro r h; simp at h) (200 + 2 * zn (u 0 8)) (hR.2.2.2.2.2.2.1 (200 + 2 * zn (u 0 8)) (by omega)) (Nat.le_of_ble_eq_true rfl) (Nat.le_of_ble_eq_true rfl) (fun ad_90 H had_90 hW => ?_)
          obtain ⟨sh_91, hsh_91⟩ : ∃ z : Nat → Option zw_Sh, z = va_up sh (200 + 2 * zn (u 0 8)) (some (.inl (5, [none, none, none]))) := ⟨_, rfl⟩
          obtain ⟨g_92, hg_92⟩ : ∃ z : zm_T, z = va_up g (200 + 2 * zn (u 0 8)) (fun _ => 0) := ⟨_, rfl⟩
          rw [← hsh_91, ← hg_92] at hW
          have hS : zc_S sh_91 := by rw [hsh_91]; exact zc_S200 (by omega) hS
          have hN : zc_N g_92 u := by rw [hg_92]; exact zc_Nv hN (by omega)
          refine lv_dup X.1 X.2.1 dX9_login_60 rfl ?_
          refine lv_aload_n X.1 X.2.1 dX9_login_61 rfl (lv_at hl 1 rfl) ?_
          refine zr_get (r := 100) (v := .ref (ad_90 102)) X hW fs_X9_13_8 dX9_login_62 (zc_s100 hS) (had_90 100 (by omega)) rfl rfl ?_
          refine lv_iload_n X.1 X.2.1 dX9_login_65 rfl (lv_at hl 2 rfl) ?_
          refine zr_iald (r := 102) (v := u 3 5) X hW dX9_login_66 (zc_s102 hS) rfl rfl (zi_vp (by decide)) ((show g_92 102 (5 : Int32).toNatClampNeg = g_92 102 5 from rfl).trans ((show g_92 102 5 = g 102 5 from (by rw [hg_92, va_up_ne _ _ (by omega)])).trans (hN0 _ _ _ _ rfl))) ?_
          refine lv_iload_n X.1 X.2.1 dX9_login_67 rfl (lv_at hl 2 rfl) ?_
          refine lv_aload_n X.1 X.2.1 dX9_login_68 rfl (lv_at hl 1 rfl) ?_
          refine zr_get (r := 100) (v := .ref (ad_90 101)) X hW fs_X9_9_8 dX9_login_69 (zc_s100 hS) (had_90 100 (by omega)) rfl rfl ?_
          refine lv_iload_n X.1 X.2.1 dX9_login_72 rfl (lv_at hl 2 rfl) ?_
          refine zr_iald (r := 101) (v := u 1 5) X hW dX9_login_73 (zc_s101 hS) rfl rfl (zi_vp (by decide)) ((show g_92 101 (5 : Int32).toNatClampNeg = g_92 101 5 from rfl).trans ((show g_92 101 5 = g 101 5 from (by rw [hg_92, va_up_ne _ _ (by omega)])).trans (hN0 _ _ _ _ rfl))) ?_
          refine zr_callI (As := [.int (u 3 5), .int 5, .int (u 1 5)]) (rest := [.ref (ad_90 (200 + 2 * zn (u 0 8))), .ref (ad 100)]) (b := ad_90 (200 + 2 * zn (u 0 8))) X hW hl.1 md_X5_init ms_X9_128 rfl dX9_login_74 rfl rfl (Nat.le_of_ble_eq_true rfl) ⟨Nat.le_of_ble_eq_true rfl, Nat.le_of_ble_eq_true rfl⟩ ⟨Nat.le_of_ble_eq_true rfl, Nat.le_of_ble_eq_true rfl⟩ (c_X5_init l Y N0 ad_90 sh_91 g_92 ((200 + 2 * zn (u 0 8))) (show sh_91 (200 + 2 * zn (u 0 8)) = some (.inl (5, [none, none, none])) from (by rw [hsh_91]; exact va_up_self _ _ _)) (u 3 5) 5 (u 1 5)) (fun v9 ad9 sh9 g9 H locs hp hW => ?_)
          obtain ⟨rfl, rfl, rfl, rfl⟩ := hp
          obtain ⟨g_96, hg_96⟩ : ∃ z : zm_T, z = zm_w g_92 (200 + 2 * zn (u 0 8)) 0 (u 3 5) := ⟨_, rfl⟩
          obtain ⟨g_97, hg_97⟩ : ∃ z : zm_T, z = zm_w g_96 (200 + 2 * zn (u 0 8)) 1 5 := ⟨_, rfl⟩
          obtain ⟨g_98, hg_98⟩ : ∃ z : zm_T, z = zm_w g_97 (200 + 2 * zn (u 0 8)) 2 (u 1 5) := ⟨_, rfl⟩
          rw [← hg_96, ← hg_97, ← hg_98] at hW
          have hN : zc_N g_96 u := by rw [hg_96]; exact zc_Nc hN (zc_lm200 (by omega)) _
          have hN : zc_N g_97 u := by rw [hg_97]; exact zc_Nc hN (zc_lm200 (by omega)) _
          have hN : zc_N g_98 u := by rw [hg_98]; exact zc_Nc hN (zc_lm200 (by omega)) _
          refine zr_callV (As := [.ref (ad_90 (200 + 2 * zn (u 0 8)))]) (rest := []) X hW hl.1 md_X9_keep ms_X9_130 dX9_login_77 (zc_s100 hS) rfl rfl rfl (by rw [(had_90 100 (by omega))] <;> rfl) (Nat.le_of_ble_eq_true rfl) ⟨Nat.le_of_ble_eq_true rfl, Nat.le_of_ble_eq_true rfl⟩ ⟨Nat.le_of_ble_eq_true rfl, Nat.le_of_ble_eq_true rfl⟩ (c_X9_keep_5 l Y N0 ad_90 sh_91 g_98 hS (u 0 8) ((show g_98 100 8 = g_97 100 8 from (by rw [hg_98]; exact zm_wn _ _ (Or.inl (by omega)))).trans ((show g_97 100 8 = g_96 100 8 from (by rw [hg_97]; exact zm_wn _ _ (Or.inl (by omega)))).trans ((show g_96 100 8 = g_92 100 8 from (by rw [hg_96]; exact zm_wn _ _ (Or.inl (by omega)))).trans ((show g_92 100 8 = g 100 8 from (by rw [hg_92, va_up_ne _ _ (by omega)])).trans (hN0 _ _ _ _ rfl))))) h8 (show sh_91 107 = some (.inr (3, 150, some (zc_sf (zn (u 0 8))))) from (by rw [hsh_91]; exact (va_up_ne _ _ (by omega)).trans hR.2.2.2.2.1)) (show sh_91 (200 + 2 * zn (u 0 8)) = some (.inl (5, [none, none, none])) from (by rw [hsh_91]; exact va_up_self _ _ _))) (fun v9 ad9 sh9 g9 H locs hp hW => ?_)
          obtain ⟨rfl, rfl, rfl, rfl⟩ := hp
          obtain ⟨sh_99, hsh_99⟩ : ∃ z : Nat → Option zw_Sh, z = va_up sh_91 107 (some (.inr (3, 150, some (zc_sf (zn (u 0 8) + 1))))) := ⟨_, rfl⟩
          obtain ⟨g_100, hg_100⟩ : ∃ z : zm_T, z = zm_w g_98 100 8 (u 0 8 + 1) := ⟨_, rfl⟩
          rw [← hsh_99, ← hg_100] at hW
          have hN9 : zc_N g_100 (zs_mk u (zs_v 1 (u 3 5) 5 (-1) (u 1 5) 0 0 0 0 0)) := by
            have e : u 0 8 = u 0 8 := by rfl
            rw [hg_100, ← e]; exact zc_Nmk hN _
          have e8 : zn (u 0 8) = zn (u 0 8) := by rfl
          have hu9 : ∀ r i : Nat, (r = 20 ∨ r = 22 ∨ r = 23 ∨ r = 24 ∨ r = 29 ∨ (r = 0 ∧ i = 28) ∨ (9 ≤ r ∧ r ≤ 18 ∧ i ≠ zn (u 0 8))) → zs_mk u (zs_v 1 (u 3 5) 5 (-1) (u 1 5) 0 0 0 0 0) r i = u r i := fun r i h => by
            rw [zs_mku u _ r i (by rw [e8]; exact h)]
          have hvv : ∀ r : Nat, 9 ≤ r ∧ r ≤ 18 → zs_mk u (zs_v 1 (u 3 5) 5 (-1) (u 1 5) 0 0 0 0 0) r (zn (u 0 8)) = (zs_v 1 (u 3 5) 5 (-1) (u 1 5) 0 0 0 0 0) r := fun r h => by rw [← e8]; exact zs_mkn u _ h
          have hsl9 : zc_sl sh_99 g_100 (zs_mk u (zs_v 1 (u 3 5) 5 (-1) (u 1 5) 0 0 0 0 0)) (zn (u 0 8)) := by
            unfold zc_sl
            rw [hvv 9 (by decide), hvv 10 (by decide), hvv 11 (by decide), hvv 12 (by decide), hvv 13 (by decide), hvv 14 (by decide), hvv 15 (by decide), hvv 16 (by decide), hvv 17 (by decide), hvv 18 (by decide)]
            exact ⟨fun _ => ⟨(show sh_99 (200 + 2 * zn (u 0 8)) = some (.inl (5, [none, none, none])) from (by rw [hsh_99]; exact (va_up_ne _ _ (by omega)).trans (show sh_91 (200 + 2 * zn (u 0 8)) = some (.inl (5, [none, none, none])) from (by rw [hsh_91]; exact va_up_self _ _ _)))), ((show g_100 (200 + 2 * zn (u 0 8)) 0 = g_98 (200 + 2 * zn (u 0 8)) 0 from (by rw [hg_100, zm_wn _ _ (Or.inl (by omega))])).trans ((show g_98 (200 + 2 * zn (u 0 8)) 0 = g_97 (200 + 2 * zn (u 0 8)) 0 from (by rw [hg_98]; exact zm_wn _ _ (Or.inr (by decide)))).trans ((show g_97 (200 + 2 * zn (u 0 8)) 0 = g_96 (200 + 2 * zn (u 0 8)) 0 from (by rw [hg_97]; exact zm_wn _ _ (Or.inr (by decide)))).trans (show g_96 (200 + 2 * zn (u 0 8)) 0 = u 3 5 from (by rw [hg_96]; exact zm_ws _ _ _ _))))), ((show g_100 (200 + 2 * zn (u 0 8)) 1 = g_98 (200 + 2 * zn (u 0 8)) 1 from (by rw [hg_100, zm_wn _ _ (Or.inl (by omega))])).trans ((show g_98 (200 + 2 * zn (u 0 8)) 1 = g_97 (200 + 2 * zn (u 0 8)) 1 from (by rw [hg_98]; exact zm_wn _ _ (Or.inr (by decide)))).trans (show g_97 (200 + 2 * zn (u 0 8)) 1 = 5 from (by rw [hg_97]; exact zm_ws _ _ _ _)))), ((show g_100 (200 + 2 * zn (u 0 8)) 2 = g_98 (200 + 2 * zn (u 0 8)) 2 from (by rw [hg_100, zm_wn _ _ (Or.inl (by omega))])).trans (show g_98 (200 + 2 * zn (u 0 8)) 2 = u 1 5 from (by rw [hg_98]; exact zm_ws _ _ _ _)))⟩, fun h => absurd (show (1 : Int32).toInt = 2 from h) (by decide), fun h => absurd (show (1 : Int32).toInt = 3 from h) (by decide), fun h => absurd (show (1 : Int32).toInt = 4 from h) (by decide)⟩
          have hz9 : zn (zs_mk u (zs_v 1 (u 3 5) 5 (-1) (u 1 5) 0 0 0 0 0) 0 8) = zn (u 0 8) + 1 := by have q9 := zs_mkz (u := u) (by exact h8) (zs_v 1 (u 3 5) 5 (-1) (u 1 5) 0 0 0 0 0); rw [q9, e8]
          have hR9 : zc_R sh_99 g_100 (zs_mk u (zs_v 1 (u 3 5) 5 (-1) (u 1 5) 0 0 0 0 0)) := zc_add (n := (zn (u 0 8))) hR rfl hz9 hN9 hu9 (show sh_99 107 = some (.inr (3, 150, some (zc_sf (zn (u 0 8) + 1)))) from (by rw [hsh_99]; exact va_up_self _ _ _)) (fun r h1 h2 h3 => by rw [hsh_99, va_up_ne _ _ (by omega), hsh_91, va_up_ne _ _ (by omega)]) (fun r h1 h2 h3 => by rw [hg_100, zm_wr (by omega), hg_98, zm_wr (by omega), hg_97, zm_wr (by omega), hg_96, zm_wr (by omega), hg_92, va_up_ne _ _ (by omega)]) (fun j hj => by rw [hg_100, zm_wn _ _ (by omega), hg_98, zm_wn _ _ (by omega), hg_97, zm_wn _ _ (by omega), hg_96, zm_wn _ _ (by omega), hg_92, va_up_ne _ _ (by omega)]) hsl9
          have hf9 : zc_fr ad sh g ad_90 sh_99 g_100 := ⟨fun r hr => had_90 r (by omega), fun r hr => ⟨by rw [hsh_99, va_up_ne _ _ (by omega), hsh_91, va_up_ne _ _ (by omega)], by rw [hg_100, zm_wr (by omega), hg_98, zm_wr (by omega), hg_97, zm_wr (by omega), hg_96, zm_wr (by omega), hg_92, va_up_ne _ _ (by omega)]⟩⟩
          have hf8 := hfr
          exact zr_iret X hW dX9_login_80 (Nat.le_of_ble_eq_true rfl) (Nat.le_of_ble_eq_true rfl) ⟨by rw [hsp], by rw [hsp]; exact hR9, ⟨fun r hr => (hf9.1 r hr).trans (hf8.1 r hr), fun r hr => ⟨(hf9.2 r hr).1.trans (hf8.2 r hr).1, (hf9.2 r hr).2.trans (hf8.2 r hr).2⟩⟩⟩
        · subst h9
          have h_78 : ¬ ((u 0 2).toInt + 0 ≤ 200 ∧ (u 0 8).toInt + 1 ≤ 150) := h_78
          refine zr_if_ne (a := 0) (tgt := 41) X dX9_login_35 (by decide) (by decide) (fun c9 => absurd c9 (by decide)) (fun _ => ?_)
          refine lv_bipush (v := (-7)) X.1 X.2.1 dX9_login_38 (by decide) ?_
          have e9 : sp_login 5 t u = ((-7), u) := (by unfold sp_login; simp only [show zn (5 : Int32) = 5 from rfl]; (first | refine (if_neg (fun h9 => h9 ⟨by decide, by omega⟩)).trans ?_ | refine (if_pos (fun h9 => by obtain ⟨-, h9⟩ := h9; omega)).trans ?_ | refine (if_pos (by omega)).trans ?_); (repeat (first | refine (if_pos (by omega)).trans ?_ | refine (if_neg (by omega)).trans ?_)); rfl)
          exact zr_iret X hW dX9_login_40 (Nat.le_of_ble_eq_true rfl) (Nat.le_of_ble_eq_true rfl) ⟨by rw [e9], by rw [e9]; exact hR, zc_fr0⟩
      · subst h9
        have h_77 : ¬ (zi_in t 0 1) := h_77
        refine zr_if_ne (a := 0) (tgt := 29) X dX9_login_24 (by decide) (by decide) (fun c9 => absurd c9 (by decide)) (fun _ => ?_)
        refine lv_iconst (v := (-1)) X.1 X.2.1 dX9_login_27 (by decide) ?_
        have e9 : sp_login 5 t u = ((-1), u) := (by unfold sp_login; simp only [show zn (5 : Int32) = 5 from rfl]; (first | refine (if_neg (fun h9 => h9 ⟨by decide, by omega⟩)).trans ?_ | refine (if_pos (fun h9 => by obtain ⟨-, h9⟩ := h9; omega)).trans ?_ | refine (if_pos (by omega)).trans ?_); (repeat (first | refine (if_pos (by omega)).trans ?_ | refine (if_neg (by omega)).trans ?_)); rfl)
        exact zr_iret X hW dX9_login_28 (Nat.le_of_ble_eq_true rfl) (Nat.le_of_ble_eq_true rfl) ⟨by rw [e9], by rw [e9]; exact hR, zc_fr0⟩
  · subst h8
    have h_101 : ¬ zs_us a := h9
    refine lv_astore_nN (lv' := [(3, .null), (0, .ref (ad 100)), (1, .int a), (2, .int t)]) X.1 X.2.1 dX9_login_5 rfl hl (by decide) rfl (fun ls hl => ?_)
    refine lv_aload_nN X.1 X.2.1 dX9_login_6 rfl (lv_at hl 0 rfl) ?_
    refine lv_ifnullN (tgt := 27) X.1 X.2.1 dX9_login_7 (by decide) ?_
    refine lv_iconst (v := (-1)) X.1 X.2.1 dX9_login_27 (by decide) ?_
    have e9 : sp_login a t u = ((-1), u) := (by unfold sp_login; (first | refine (if_neg (fun h9 => h9 ⟨by decide, by omega⟩)).trans ?_ | refine (if_pos (fun h9 => by obtain ⟨-, h9⟩ := h9; omega)).trans ?_ | refine (if_pos (by omega)).trans ?_); (repeat (first | refine (if_pos (by omega)).trans ?_ | refine (if_neg (by omega)).trans ?_)); rfl)
    exact zr_iret X hW dX9_login_28 (Nat.le_of_ble_eq_true rfl) (Nat.le_of_ble_eq_true rfl) ⟨by rw [e9], by rw [e9]; exact hR, zc_fr0⟩
