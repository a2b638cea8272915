theorem zs_clr3 (u : zm_T) (p : Nat) : zm_w (zm_w (zm_w u 7 (3 * p + 0) 0) 7 (3 * p + 1) 0) 7 (3 * p + 2) 0 = zs_clr u p := by
  funext r i
  unfold zs_clr zm_w
  simp only [va_up, upd]
  by_cases hr : r = 7
  · subst hr
    by_cases h0 : i = 3 * p + 0
    · subst h0; simp [upd]
    · by_cases h1 : i = 3 * p + 1
      · subst h1; simp [upd]
      · by_cases h2 : i = 3 * p + 2
        · subst h2; simp [upd]
        · have h3 : ¬ (3 * p ≤ i ∧ i < 3 * p + 3) := by omega
          have h0' : ¬ i = 3 * p := by omega
          simp [upd, h0', h1, h2, h3]
  · simp [hr]

set_option maxHeartbeats 4000000 in
set_option maxRecDepth 100000 in
theorem c_X10_enrol (l : Launch) (Y : zw_Y) (N0 : Nat) (ad : Nat → Nat) (sh : Nat → Option zw_Sh) (u g0 : zm_T) (hM : zm_S sh) (a : Int32) (hI : zm_I u) : zw_Met l Y N0 yX10_enrol cX10_enrol 3 (some .int) 1 22 0 0 ad sh (zm_mix u g0) [.ref (ad 0), .int a] (zp_S ad sh g0 (sp_enrol a u)) := by
  refine zw_meth (by decide) (Nat.le_of_ble_eq_true rfl) ?_
  intro p e s m below meth c ls X hnm hl hW
  have hl : lv_has ls 3 [(0, .ref (ad 0)), (1, .int a)] := hl
  have hse := zI_se hI
  have hke := zI_ke hI
  have hs1 := zi_sub (u 0 8) 1 (by rw [show (1 : Int32).toInt = 1 from rfl]; omega)
  rw [show (1 : Int32).toInt = 1 from rfl] at hs1
  refine lv_iload_n X.1 X.2.1 dX10_enrol_0 rfl (lv_at hl 1 rfl) ?_
  refine lv_iconst (v := 0) X.1 X.2.1 dX10_enrol_1 (by decide) ?_
  refine lv_iconst (v := 5) X.1 X.2.1 dX10_enrol_2 (by decide) ?_
  refine zr_callS (As := [.int a, .int 0, .int 5]) (rest := []) X hW hl.1 md_X10_in ms_X10_87 dX10_enrol_3 rfl rfl (Nat.le_of_ble_eq_true rfl) ⟨Nat.le_of_ble_eq_true rfl, Nat.le_of_ble_eq_true rfl⟩ ⟨Nat.le_of_ble_eq_true rfl, Nat.le_of_ble_eq_true rfl⟩ (c_X10_in l Y N0 ad sh (zm_mix u g0) a 0 5) (fun v9 ad9 sh9 g9 H locs hp hW => ?_)
  rcases hp with ⟨rfl, rfl, rfl, ⟨h_1, h9⟩ | ⟨h_1, h9⟩⟩
  · subst h9
    have h_1 : zi_in a 0 5 := h_1
    refine zr_if_ne (a := 1) (tgt := 11) X dX10_enrol_6 (by decide) (by decide) (fun _ => ?_) (fun c9 => absurd c9 (by decide))
    refine lv_aload_n X.1 X.2.1 dX10_enrol_11 rfl (lv_at hl 0 rfl) ?_
    refine zr_get (v := .int (u 0 2)) X hW fs_X10_91_9 dX10_enrol_12 (zm_s0 hM) rfl rfl rfl ?_
    refine lv_sipush (v := 200) X.1 X.2.1 dX10_enrol_15 (by decide) ?_
    refine zr_icmp_ne (a := (u 0 2).toInt) (b := 200) (tgt := 24) X dX10_enrol_18 (by decide) rfl (by decide) (fun c_2 => ?_) (fun c_2 => ?_)
    · refine lv_aload_n X.1 X.2.1 dX10_enrol_24 rfl (lv_at hl 0 rfl) ?_
      refine zr_get (v := .ref (ad 5)) X hW fs_X10_20_9 dX10_enrol_25 (zm_s0 hM) rfl rfl rfl ?_
      refine lv_iload_n X.1 X.2.1 dX10_enrol_28 rfl (lv_at hl 1 rfl) ?_
      refine zr_iald (v := u 5 (zn a)) X hW dX10_enrol_29 (zm_s5 hM) rfl rfl (zi_vp (by omega)) rfl ?_
      refine zr_if_ge (a := (u 5 (zn a)).toInt) (tgt := 65) X dX10_enrol_30 (by decide) rfl (fun c_3 => ?_) (fun c_3 => ?_)
      · refine lv_aload_n X.1 X.2.1 dX10_enrol_65 rfl (lv_at hl 0 rfl) ?_
        refine zr_get (v := .ref (ad 5)) X hW fs_X10_20_9 dX10_enrol_66 (zm_s0 hM) rfl rfl rfl ?_
        refine lv_iload_n X.1 X.2.1 dX10_enrol_69 rfl (lv_at hl 1 rfl) ?_
        refine lv_aload_n X.1 X.2.1 dX10_enrol_70 rfl (lv_at hl 0 rfl) ?_
        refine zr_get (v := .int (u 0 2)) X hW fs_X10_91_9 dX10_enrol_71 (zm_s0 hM) rfl rfl rfl ?_
        refine zr_iast X hW dX10_enrol_74 (zm_s5 hM) rfl rfl (zi_vp (by omega)) (fun H locs hW => ?_)
        have hW : zw_St Y N0 ad sh (zm_mix (zm_w u 5 (zn a) (u 0 2)) g0) s H locs := zm_st (by decide) hW
        obtain ⟨u_4, hu_4⟩ : ∃ z : zm_T, z = zm_w u 5 (zn a) (u 0 2) := ⟨_, rfl⟩
        rw [← hu_4] at hW
        refine lv_aload_n X.1 X.2.1 dX10_enrol_75 rfl (lv_at hl 0 rfl) ?_
        refine zr_get (v := .ref (ad 3)) X hW fs_X10_13_9 dX10_enrol_76 (zm_s0 hM) rfl rfl rfl ?_
        refine lv_iload_n X.1 X.2.1 dX10_enrol_79 rfl (lv_at hl 1 rfl) ?_
        refine lv_aload_n X.1 X.2.1 dX10_enrol_80 rfl (lv_at hl 0 rfl) ?_
        refine zr_get (v := .int (u 0 2)) X hW fs_X10_91_9 dX10_enrol_81 (zm_s0 hM) rfl rfl (congrArg Value.int (show u_4 0 2 = u 0 2 from (by rw [hu_4]; rfl))) ?_
        refine zr_iast X hW dX10_enrol_84 (zm_s3 hM) rfl rfl (zi_vp (by omega)) (fun H locs hW => ?_)
        have hW : zw_St Y N0 ad sh (zm_mix (zm_w u_4 3 (zn a) (u 0 2)) g0) s H locs := zm_st (by decide) hW
        obtain ⟨u_5, hu_5⟩ : ∃ z : zm_T, z = zm_w u_4 3 (zn a) (u 0 2) := ⟨_, rfl⟩
        rw [← hu_5] at hW
        refine lv_aload_n X.1 X.2.1 dX10_enrol_85 rfl (lv_at hl 0 rfl) ?_
        refine lv_dup X.1 X.2.1 dX10_enrol_86 rfl ?_
        refine zr_get (v := .int (u 0 2)) X hW fs_X10_91_9 dX10_enrol_87 (zm_s0 hM) rfl rfl (congrArg Value.int ((show u_5 0 2 = u_4 0 2 from (by rw [hu_5]; rfl)).trans (show u_4 0 2 = u 0 2 from (by rw [hu_4]; rfl)))) ?_
        refine lv_iconst (v := 1) X.1 X.2.1 dX10_enrol_90 (by decide) ?_
        refine lv_iadd X.1 X.2.1 dX10_enrol_91 ?_
        refine zr_puti X hW fs_X10_91_9 dX10_enrol_92 (zm_s0 hM) rfl rfl rfl rfl (fun H locs hW => ?_)
        have hW : zw_St Y N0 ad sh (zm_mix (zm_w u_5 0 2 ((u 0 2) + 1)) g0) s H locs := zm_st (by decide) hW
        obtain ⟨u_6, hu_6⟩ : ∃ z : zm_T, z = zm_w u_5 0 2 ((u 0 2) + 1) := ⟨_, rfl⟩
        rw [← hu_6] at hW
        refine lv_aload_n X.1 X.2.1 dX10_enrol_95 rfl (lv_at hl 0 rfl) ?_
        refine zr_get (v := .int ((u 0 2) + 1)) X hW fs_X10_91_9 dX10_enrol_96 (zm_s0 hM) rfl rfl (congrArg Value.int (show u_6 0 2 = (u 0 2) + 1 from (by rw [hu_6]; exact zm_ws _ _ _ _))) ?_
        refine lv_iconst (v := 1) X.1 X.2.1 dX10_enrol_99 (by decide) ?_
        refine lv_isub X.1 X.2.1 dX10_enrol_100 ?_
        have e9 : sp_enrol a u = (((u 0 2) + 1) - 1, u_6) := (by subst hu_6 hu_5 hu_4; unfold sp_enrol; (repeat (first | refine (if_pos (by omega)).trans ?_ | refine (if_neg (by omega)).trans ?_)); first | rfl | exact Prod.ext (Int32.add_sub_cancel _ _).symm (congrArg (fun z => zm_w (zm_w (zm_w z 5 (zn a) (u 0 2)) 3 (zn a) (u 0 2)) 0 2 (u 0 2 + 1)) (if_neg (by omega))) | exact Prod.ext (Int32.add_sub_cancel _ _).symm (congrArg (fun z => zm_w (zm_w (zm_w z 5 (zn a) (u 0 2)) 3 (zn a) (u 0 2)) 0 2 (u 0 2 + 1)) ((if_pos (by omega)).trans (zs_clr3 _ _).symm)))
        exact zr_iret X hW dX10_enrol_101 (Nat.le_refl _) (Nat.le_refl _) ⟨rfl, rfl, by rw [e9], by rw [e9]⟩
      · refine lv_aload_n X.1 X.2.1 dX10_enrol_33 rfl (lv_at hl 0 rfl) ?_
        refine zr_get (v := .ref (ad 6)) X hW fs_X10_23_9 dX10_enrol_34 (zm_s0 hM) rfl rfl rfl ?_
        refine lv_iload_n X.1 X.2.1 dX10_enrol_37 rfl (lv_at hl 1 rfl) ?_
        refine lv_bipush (v := 20) X.1 X.2.1 dX10_enrol_38 (by decide) ?_
        refine zr_iast X hW dX10_enrol_40 (zm_s6 hM) rfl rfl (zi_vp (by omega)) (fun H locs hW => ?_)
        have hW : zw_St Y N0 ad sh (zm_mix (zm_w u 6 (zn a) 20) g0) s H locs := zm_st (by decide) hW
        obtain ⟨u_7, hu_7⟩ : ∃ z : zm_T, z = zm_w u 6 (zn a) 20 := ⟨_, rfl⟩
        rw [← hu_7] at hW
        refine lv_iconst (v := 0) X.1 X.2.1 dX10_enrol_41 (by decide) ?_
        refine lv_istore_n (lv' := [(2, .int 0), (0, .ref (ad 0)), (1, .int a)]) X.1 X.2.1 dX10_enrol_42 rfl hl (by decide) rfl (fun ls hl => ?_)
        refine lv_iload_n X.1 X.2.1 dX10_enrol_43 rfl (lv_at hl 0 rfl) ?_
        refine lv_iconst (v := 3) X.1 X.2.1 dX10_enrol_44 (by decide) ?_
        refine zr_icmp_ge (a := 0) (b := 3) (tgt := 65) X dX10_enrol_45 (by decide) (by decide) (by decide) (fun c9 => absurd c9 (by decide)) (fun _ => ?_)
        refine lv_aload_n X.1 X.2.1 dX10_enrol_48 rfl (lv_at hl 1 rfl) ?_
        refine zr_get (v := .ref (ad 7)) X hW fs_X10_26_9 dX10_enrol_49 (zm_s0 hM) rfl rfl rfl ?_
        refine lv_iconst (v := 3) X.1 X.2.1 dX10_enrol_52 (by decide) ?_
        refine lv_iload_n X.1 X.2.1 dX10_enrol_53 rfl (lv_at hl 2 rfl) ?_
        refine lv_imul X.1 X.2.1 dX10_enrol_54 ?_
        refine lv_iload_n X.1 X.2.1 dX10_enrol_55 rfl (lv_at hl 0 rfl) ?_
        refine lv_iadd X.1 X.2.1 dX10_enrol_56 ?_
        refine lv_iconst (v := 0) X.1 X.2.1 dX10_enrol_57 (by decide) ?_
        have hx_8 : (3 * a + 0).toInt = 3 * a.toInt + 0 ∧ (3 * a + 0).toNatClampNeg = 3 * zn a + 0 := zi_ix3 a 0 (by omega) (by decide)
        obtain ⟨hx_8, hx_8n⟩ := hx_8
        refine zr_iast X hW dX10_enrol_58 (zm_s7 hM) rfl rfl (zi_vp (by omega)) (fun H locs hW => ?_)
        rw [hx_8n] at hW
        have hW : zw_St Y N0 ad sh (zm_mix (zm_w u_7 7 (3 * zn a + 0) 0) g0) s H locs := zm_st (by decide) hW
        obtain ⟨u_9, hu_9⟩ : ∃ z : zm_T, z = zm_w u_7 7 (3 * zn a + 0) 0 := ⟨_, rfl⟩
        rw [← hu_9] at hW
        refine lv_iinc (v := 1) (lv' := [(2, .int 1), (0, .ref (ad 0)), (1, .int a)]) X.1 X.2.1 dX10_enrol_59 hl (k := 0) rfl (by decide) (by decide) rfl (fun ls hl => ?_)
        refine lv_goto (tgt := 43) X.1 X.2.1 dX10_enrol_62 (by decide) ?_
        refine lv_iload_n X.1 X.2.1 dX10_enrol_43 rfl (lv_at hl 0 rfl) ?_
        refine lv_iconst (v := 3) X.1 X.2.1 dX10_enrol_44 (by decide) ?_
        refine zr_icmp_ge (a := 1) (b := 3) (tgt := 65) X dX10_enrol_45 (by decide) (by decide) (by decide) (fun c9 => absurd c9 (by decide)) (fun _ => ?_)
        refine lv_aload_n X.1 X.2.1 dX10_enrol_48 rfl (lv_at hl 1 rfl) ?_
        refine zr_get (v := .ref (ad 7)) X hW fs_X10_26_9 dX10_enrol_49 (zm_s0 hM) rfl rfl rfl ?_
        refine lv_iconst (v := 3) X.1 X.2.1 dX10_enrol_52 (by decide) ?_
        refine lv_iload_n X.1 X.2.1 dX10_enrol_53 rfl (lv_at hl 2 rfl) ?_
        refine lv_imul X.1 X.2.1 dX10_enrol_54 ?_
        refine lv_iload_n X.1 X.2.1 dX10_enrol_55 rfl (lv_at hl 0 rfl) ?_
        refine lv_iadd X.1 X.2.1 dX10_enrol_56 ?_
        refine lv_iconst (v := 0) X.1 X.2.1 dX10_enrol_57 (by decide) ?_
        have hx_10 : (3 * a + 1).toInt = 3 * a.toInt + 1 ∧ (3 * a + 1).toNatClampNeg = 3 * zn a + 1 := zi_ix3 a 1 (by omega) (by decide)
        obtain ⟨hx_10, hx_10n⟩ := hx_10
        refine zr_iast X hW dX10_enrol_58 (zm_s7 hM) rfl rfl (zi_vp (by omega)) (fun H locs hW => ?_)
        rw [hx_10n] at hW
        have hW : zw_St Y N0 ad sh (zm_mix (zm_w u_9 7 (3 * zn a + 1) 0) g0) s H locs := zm_st (by decide) hW
        obtain ⟨u_11, hu_11⟩ : ∃ z : zm_T, z = zm_w u_9 7 (3 * zn a + 1) 0 := ⟨_, rfl⟩
        rw [← hu_11] at hW
        refine lv_iinc (v := 2) (lv' := [(2, .int 2), (0, .ref (ad 0)), (1, .int a)]) X.1 X.2.1 dX10_enrol_59 hl (k := 0) rfl (by decide) (by decide) rfl (fun ls hl => ?_)
        refine lv_goto (tgt := 43) X.1 X.2.1 dX10_enrol_62 (by decide) ?_
        refine lv_iload_n X.1 X.2.1 dX10_enrol_43 rfl (lv_at hl 0 rfl) ?_
        refine lv_iconst (v := 3) X.1 X.2.1 dX10_enrol_44 (by decide) ?_
        refine zr_icmp_ge (a := 2) (b := 3) (tgt := 65) X dX10_enrol_45 (by decide) (by decide) (by decide) (fun c9 => absurd c9 (by decide)) (fun _ => ?_)
        refine lv_aload_n X.1 X.2.1 dX10_enrol_48 rfl (lv_at hl 1 rfl) ?_
        refine zr_get (v := .ref (ad 7)) X hW fs_X10_26_9 dX10_enrol_49 (zm_s0 hM) rfl rfl rfl ?_
        refine lv_iconst (v := 3) X.1 X.2.1 dX10_enrol_52 (by decide) ?_
        refine lv_iload_n X.1 X.2.1 dX10_enrol_53 rfl (lv_at hl 2 rfl) ?_
        refine lv_imul X.1 X.2.1 dX10_enrol_54 ?_
        refine lv_iload_n X.1 X.2.1 dX10_enrol_55 rfl (lv_at hl 0 rfl) ?_
        refine lv_iadd X.1 X.2.1 dX10_enrol_56 ?_
        refine lv_iconst (v := 0) X.1 X.2.1 dX10_enrol_57 (by decide) ?_
        have hx_12 : (3 * a + 2).toInt = 3 * a.toInt + 2 ∧ (3 * a + 2).toNatClampNeg = 3 * zn a + 2 := zi_ix3 a 2 (by omega) (by decide)
        obtain ⟨hx_12, hx_12n⟩ := hx_12
        refine zr_iast X hW dX10_enrol_58 (zm_s7 hM) rfl rfl (zi_vp (by omega)) (fun H locs hW => ?_)
        rw [hx_12n] at hW
        have hW : zw_St Y N0 ad sh (zm_mix (zm_w u_11 7 (3 * zn a + 2) 0) g0) s H locs := zm_st (by decide) hW
        obtain ⟨u_13, hu_13⟩ : ∃ z : zm_T, z = zm_w u_11 7 (3 * zn a + 2) 0 := ⟨_, rfl⟩
        rw [← hu_13] at hW
        refine lv_iinc (v := 3) (lv' := [(2, .int 3), (0, .ref (ad 0)), (1, .int a)]) X.1 X.2.1 dX10_enrol_59 hl (k := 0) rfl (by decide) (by decide) rfl (fun ls hl => ?_)
        refine lv_goto (tgt := 43) X.1 X.2.1 dX10_enrol_62 (by decide) ?_
        refine lv_iload_n X.1 X.2.1 dX10_enrol_43 rfl (lv_at hl 0 rfl) ?_
        refine lv_iconst (v := 3) X.1 X.2.1 dX10_enrol_44 (by decide) ?_
        refine zr_icmp_ge (a := 3) (b := 3) (tgt := 65) X dX10_enrol_45 (by decide) (by decide) (by decide) (fun _ => ?_) (fun c9 => absurd c9 (by decide))
        refine lv_aload_n X.1 X.2.1 dX10_enrol_65 rfl (lv_at hl 1 rfl) ?_
        refine zr_get (v := .ref (ad 5)) X hW fs_X10_20_9 dX10_enrol_66 (zm_s0 hM) rfl rfl rfl ?_
        refine lv_iload_n X.1 X.2.1 dX10_enrol_69 rfl (lv_at hl 2 rfl) ?_
        refine lv_aload_n X.1 X.2.1 dX10_enrol_70 rfl (lv_at hl 1 rfl) ?_
        refine zr_get (v := .int (u 0 2)) X hW fs_X10_91_9 dX10_enrol_71 (zm_s0 hM) rfl rfl (congrArg Value.int ((show u_13 0 2 = u_11 0 2 from (by rw [hu_13]; rfl)).trans ((show u_11 0 2 = u_9 0 2 from (by rw [hu_11]; rfl)).trans ((show u_9 0 2 = u_7 0 2 from (by rw [hu_9]; rfl)).trans (show u_7 0 2 = u 0 2 from (by rw [hu_7]; rfl)))))) ?_
        refine zr_iast X hW dX10_enrol_74 (zm_s5 hM) rfl rfl (zi_vp (by omega)) (fun H locs hW => ?_)
        have hW : zw_St Y N0 ad sh (zm_mix (zm_w u_13 5 (zn a) (u 0 2)) g0) s H locs := zm_st (by decide) hW
        obtain ⟨u_14, hu_14⟩ : ∃ z : zm_T, z = zm_w u_13 5 (zn a) (u 0 2) := ⟨_, rfl⟩
        rw [← hu_14] at hW
        refine lv_aload_n X.1 X.2.1 dX10_enrol_75 rfl (lv_at hl 1 rfl) ?_
        refine zr_get (v := .ref (ad 3)) X hW fs_X10_13_9 dX10_enrol_76 (zm_s0 hM) rfl rfl rfl ?_
        refine lv_iload_n X.1 X.2.1 dX10_enrol_79 rfl (lv_at hl 2 rfl) ?_
        refine lv_aload_n X.1 X.2.1 dX10_enrol_80 rfl (lv_at hl 1 rfl) ?_
        refine zr_get (v := .int (u 0 2)) X hW fs_X10_91_9 dX10_enrol_81 (zm_s0 hM) rfl rfl (congrArg Value.int ((show u_14 0 2 = u_13 0 2 from (by rw [hu_14]; rfl)).trans ((show u_13 0 2 = u_11 0 2 from (by rw [hu_13]; rfl)).trans ((show u_11 0 2 = u_9 0 2 from (by rw [hu_11]; rfl)).trans ((show u_9 0 2 = u_7 0 2 from (by rw [hu_9]; rfl)).trans (show u_7 0 2 = u 0 2 from (by rw [hu_7]; rfl))))))) ?_
        refine zr_iast X hW dX10_enrol_84 (zm_s3 hM) rfl rfl (zi_vp (by omega)) (fun H locs hW => ?_)
        have hW : zw_St Y N0 ad sh (zm_mix (zm_w u_14 3 (zn a) (u 0 2)) g0) s H locs := zm_st (by decide) hW
        obtain ⟨u_15, hu_15⟩ : ∃ z : zm_T, z = zm_w u_14 3 (zn a) (u 0 2) := ⟨_, rfl⟩
        rw [← hu_15] at hW
        refine lv_aload_n X.1 X.2.1 dX10_enrol_85 rfl (lv_at hl 1 rfl) ?_
        refine lv_dup X.1 X.2.1 dX10_enrol_86 rfl ?_
        refine zr_get (v := .int (u 0 2)) X hW fs_X10_91_9 dX10_enrol_87 (zm_s0 hM) rfl rfl (congrArg Value.int ((show u_15 0 2 = u_14 0 2 from (by rw [hu_15]; rfl)).trans ((show u_14 0 2 = u_13 0 2 from (by rw [hu_14]; rfl)).trans ((show u_13 0 2 = u_11 0 2 from (by rw [hu_13]; rfl)).trans ((show u_11 0 2 = u_9 0 2 from (by rw [hu_11]; rfl)).trans ((show u_9 0 2 = u_7 0 2 from (by rw [hu_9]; rfl)).trans (show u_7 0 2 = u 0 2 from (by rw [hu_7]; rfl)))))))) ?_
        refine lv_iconst (v := 1) X.1 X.2.1 dX10_enrol_90 (by decide) ?_
        refine lv_iadd X.1 X.2.1 dX10_enrol_91 ?_
        refine zr_puti X hW fs_X10_91_9 dX10_enrol_92 (zm_s0 hM) rfl rfl rfl rfl (fun H locs hW => ?_)
        have hW : zw_St Y N0 ad sh (zm_mix (zm_w u_15 0 2 ((u 0 2) + 1)) g0) s H locs := zm_st (by decide) hW
        obtain ⟨u_16, hu_16⟩ : ∃ z : zm_T, z = zm_w u_15 0 2 ((u 0 2) + 1) := ⟨_, rfl⟩
        rw [← hu_16] at hW
        refine lv_aload_n X.1 X.2.1 dX10_enrol_95 rfl (lv_at hl 1 rfl) ?_
        refine zr_get (v := .int ((u 0 2) + 1)) X hW fs_X10_91_9 dX10_enrol_96 (zm_s0 hM) rfl rfl (congrArg Value.int (show u_16 0 2 = (u 0 2) + 1 from (by rw [hu_16]; exact zm_ws _ _ _ _))) ?_
        refine lv_iconst (v := 1) X.1 X.2.1 dX10_enrol_99 (by decide) ?_
        refine lv_isub X.1 X.2.1 dX10_enrol_100 ?_
        have e9 : sp_enrol a u = (((u 0 2) + 1) - 1, u_16) := (by subst hu_16 hu_15 hu_14 hu_13 hu_11 hu_9 hu_7; unfold sp_enrol; (repeat (first | refine (if_pos (by omega)).trans ?_ | refine (if_neg (by omega)).trans ?_)); first | rfl | exact Prod.ext (Int32.add_sub_cancel _ _).symm (congrArg (fun z => zm_w (zm_w (zm_w z 5 (zn a) (u 0 2)) 3 (zn a) (u 0 2)) 0 2 (u 0 2 + 1)) (if_neg (by omega))) | exact Prod.ext (Int32.add_sub_cancel _ _).symm (congrArg (fun z => zm_w (zm_w (zm_w z 5 (zn a) (u 0 2)) 3 (zn a) (u 0 2)) 0 2 (u 0 2 + 1)) ((if_pos (by omega)).trans (zs_clr3 _ _).symm)))
        exact zr_iret X hW dX10_enrol_101 (Nat.le_refl _) (Nat.le_refl _) ⟨rfl, rfl, by rw [e9], by rw [e9]⟩
    · refine lv_bipush (v := (-7)) X.1 X.2.1 dX10_enrol_21 (by decide) ?_
      have e9 : sp_enrol a u = ((-7), u) := (by unfold sp_enrol; (repeat (first | refine (if_pos (by omega)).trans ?_ | refine (if_neg (by omega)).trans ?_)); first | rfl | exact Prod.ext (Int32.add_sub_cancel _ _).symm (congrArg (fun z => zm_w (zm_w (zm_w z 5 (zn a) (u 0 2)) 3 (zn a) (u 0 2)) 0 2 (u 0 2 + 1)) (if_neg (by omega))) | exact Prod.ext (Int32.add_sub_cancel _ _).symm (congrArg (fun z => zm_w (zm_w (zm_w z 5 (zn a) (u 0 2)) 3 (zn a) (u 0 2)) 0 2 (u 0 2 + 1)) ((if_pos (by omega)).trans (zs_clr3 _ _).symm)))
      exact zr_iret X hW dX10_enrol_23 (Nat.le_refl _) (Nat.le_refl _) ⟨rfl, rfl, by rw [e9], by rw [e9]⟩
  · subst h9
    have h_1 : ¬ (zi_in a 0 5) := h_1
    refine zr_if_ne (a := 0) (tgt := 11) X dX10_enrol_6 (by decide) (by decide) (fun c9 => absurd c9 (by decide)) (fun _ => ?_)
    refine lv_iconst (v := (-1)) X.1 X.2.1 dX10_enrol_9 (by decide) ?_
    have e9 : sp_enrol a u = ((-1), u) := (by unfold sp_enrol; (repeat (first | refine (if_pos (by omega)).trans ?_ | refine (if_neg (by omega)).trans ?_)); first | rfl | exact Prod.ext (Int32.add_sub_cancel _ _).symm (congrArg (fun z => zm_w (zm_w (zm_w z 5 (zn a) (u 0 2)) 3 (zn a) (u 0 2)) 0 2 (u 0 2 + 1)) (if_neg (by omega))) | exact Prod.ext (Int32.add_sub_cancel _ _).symm (congrArg (fun z => zm_w (zm_w (zm_w z 5 (zn a) (u 0 2)) 3 (zn a) (u 0 2)) 0 2 (u 0 2 + 1)) ((if_pos (by omega)).trans (zs_clr3 _ _).symm)))
    exact zr_iret X hW dX10_enrol_10 (Nat.le_refl _) (Nat.le_refl _) ⟨rfl, rfl, by rw [e9], by rw [e9]⟩

set_option maxHeartbeats 4000000 in
set_option maxRecDepth 100000 in
theorem c_X10_same (l : Launch) (Y : zw_Y) (N0 : Nat) (ad : Nat → Nat) (sh : Nat → Option zw_Sh) (u g0 : zm_T) (hM : zm_S sh) (a1 b1 : Int32) (h1 : 0 ≤ a1.toInt ∧ a1.toInt < 150) (h2 : 0 ≤ b1.toInt ∧ b1.toInt < 150) : zw_Met l Y N0 yX10_same cX10_same 4 (some .boolean) 0 0 0 0 ad sh (zm_mix u g0) [.ref (ad 0), .int a1, .int b1] (zp_B ad sh (zm_mix u g0) (zs_same u (zn a1) (zn b1))) := by
  refine zw_meth (by decide) (Nat.le_of_ble_eq_true rfl) ?_
  intro p e s m below meth c ls X hnm hl hW
  have hl : lv_has ls 4 [(0, .ref (ad 0)), (1, .int a1), (2, .int b1)] := hl
  refine lv_aload_n X.1 X.2.1 dX10_same_0 rfl (lv_at hl 0 rfl) ?_
  refine zr_get (v := .ref (ad 10)) X hW fs_X10_32_9 dX10_same_1 (zm_s0 hM) rfl rfl rfl ?_
  refine lv_iload_n X.1 X.2.1 dX10_same_4 rfl (lv_at hl 1 rfl) ?_
  refine zr_iald (v := u 10 (zn a1)) X hW dX10_same_5 (zm_s10 hM) rfl rfl (zi_vp (by omega)) rfl ?_
  refine lv_aload_n X.1 X.2.1 dX10_same_6 rfl (lv_at hl 0 rfl) ?_
  refine zr_get (v := .ref (ad 10)) X hW fs_X10_32_9 dX10_same_7 (zm_s0 hM) rfl rfl rfl ?_
  refine lv_iload_n X.1 X.2.1 dX10_same_10 rfl (lv_at hl 2 rfl) ?_
  refine zr_iald (v := u 10 (zn b1)) X hW dX10_same_11 (zm_s10 hM) rfl rfl (zi_vp (by omega)) rfl ?_
  refine zr_icmp_ne (a := (u 10 (zn a1)).toInt) (b := (u 10 (zn b1)).toInt) (tgt := 64) X dX10_same_12 (by decide) rfl rfl (fun c_1 => ?_) (fun c_1 => ?_)
  · refine lv_iconst (v := 0) X.1 X.2.1 dX10_same_64 (by decide) ?_
    refine lv_istore_n (lv' := [(3, .int 0), (0, .ref (ad 0)), (1, .int a1), (2, .int b1)]) X.1 X.2.1 dX10_same_65 rfl hl (by decide) rfl (fun ls hl => ?_)
    refine lv_iload_n X.1 X.2.1 dX10_same_66 rfl (lv_at hl 0 rfl) ?_
    refine zr_if_eq (a := 0) (tgt := 119) X dX10_same_67 (by decide) (by decide) (fun _ => ?_) (fun c9 => absurd c9 (by decide))
    refine lv_iconst (v := 0) X.1 X.2.1 dX10_same_119 (by decide) ?_
    exact zr_zret X hW dX10_same_120 (Nat.le_refl _) (Nat.le_refl _) rfl ⟨rfl, rfl, rfl, Or.inr ⟨by omega, rfl⟩⟩
  · refine lv_aload_n X.1 X.2.1 dX10_same_15 rfl (lv_at hl 0 rfl) ?_
    refine zr_get (v := .ref (ad 11)) X hW fs_X10_35_9 dX10_same_16 (zm_s0 hM) rfl rfl rfl ?_
    refine lv_iload_n X.1 X.2.1 dX10_same_19 rfl (lv_at hl 1 rfl) ?_
    refine zr_iald (v := u 11 (zn a1)) X hW dX10_same_20 (zm_s11 hM) rfl rfl (zi_vp (by omega)) rfl ?_
    refine lv_aload_n X.1 X.2.1 dX10_same_21 rfl (lv_at hl 0 rfl) ?_
    refine zr_get (v := .ref (ad 11)) X hW fs_X10_35_9 dX10_same_22 (zm_s0 hM) rfl rfl rfl ?_
    refine lv_iload_n X.1 X.2.1 dX10_same_25 rfl (lv_at hl 2 rfl) ?_
    refine zr_iald (v := u 11 (zn b1)) X hW dX10_same_26 (zm_s11 hM) rfl rfl (zi_vp (by omega)) rfl ?_
    refine zr_icmp_ne (a := (u 11 (zn a1)).toInt) (b := (u 11 (zn b1)).toInt) (tgt := 64) X dX10_same_27 (by decide) rfl rfl (fun c_2 => ?_) (fun c_2 => ?_)
    · refine lv_iconst (v := 0) X.1 X.2.1 dX10_same_64 (by decide) ?_
      refine lv_istore_n (lv' := [(3, .int 0), (0, .ref (ad 0)), (1, .int a1), (2, .int b1)]) X.1 X.2.1 dX10_same_65 rfl hl (by decide) rfl (fun ls hl => ?_)
      refine lv_iload_n X.1 X.2.1 dX10_same_66 rfl (lv_at hl 0 rfl) ?_
      refine zr_if_eq (a := 0) (tgt := 119) X dX10_same_67 (by decide) (by decide) (fun _ => ?_) (fun c9 => absurd c9 (by decide))
      refine lv_iconst (v := 0) X.1 X.2.1 dX10_same_119 (by decide) ?_
      exact zr_zret X hW dX10_same_120 (Nat.le_refl _) (Nat.le_refl _) rfl ⟨rfl, rfl, rfl, Or.inr ⟨by omega, rfl⟩⟩
    · refine lv_aload_n X.1 X.2.1 dX10_same_30 rfl (lv_at hl 0 rfl) ?_
      refine zr_get (v := .ref (ad 13)) X hW fs_X10_41_9 dX10_same_31 (zm_s0 hM) rfl rfl rfl ?_
      refine lv_iload_n X.1 X.2.1 dX10_same_34 rfl (lv_at hl 1 rfl) ?_
      refine zr_iald (v := u 13 (zn a1)) X hW dX10_same_35 (zm_s13 hM) rfl rfl (zi_vp (by omega)) rfl ?_
      refine lv_aload_n X.1 X.2.1 dX10_same_36 rfl (lv_at hl 0 rfl) ?_
      refine zr_get (v := .ref (ad 13)) X hW fs_X10_41_9 dX10_same_37 (zm_s0 hM) rfl rfl rfl ?_
      refine lv_iload_n X.1 X.2.1 dX10_same_40 rfl (lv_at hl 2 rfl) ?_
      refine zr_iald (v := u 13 (zn b1)) X hW dX10_same_41 (zm_s13 hM) rfl rfl (zi_vp (by omega)) rfl ?_
      refine zr_icmp_ne (a := (u 13 (zn a1)).toInt) (b := (u 13 (zn b1)).toInt) (tgt := 64) X dX10_same_42 (by decide) rfl rfl (fun c_3 => ?_) (fun c_3 => ?_)
      · refine lv_iconst (v := 0) X.1 X.2.1 dX10_same_64 (by decide) ?_
        refine lv_istore_n (lv' := [(3, .int 0), (0, .ref (ad 0)), (1, .int a1), (2, .int b1)]) X.1 X.2.1 dX10_same_65 rfl hl (by decide) rfl (fun ls hl => ?_)
        refine lv_iload_n X.1 X.2.1 dX10_same_66 rfl (lv_at hl 0 rfl) ?_
        refine zr_if_eq (a := 0) (tgt := 119) X dX10_same_67 (by decide) (by decide) (fun _ => ?_) (fun c9 => absurd c9 (by decide))
        refine lv_iconst (v := 0) X.1 X.2.1 dX10_same_119 (by decide) ?_
        exact zr_zret X hW dX10_same_120 (Nat.le_refl _) (Nat.le_refl _) rfl ⟨rfl, rfl, rfl, Or.inr ⟨by omega, rfl⟩⟩
      · refine lv_aload_n X.1 X.2.1 dX10_same_45 rfl (lv_at hl 0 rfl) ?_
        refine zr_get (v := .ref (ad 14)) X hW fs_X10_44_9 dX10_same_46 (zm_s0 hM) rfl rfl rfl ?_
        refine lv_iload_n X.1 X.2.1 dX10_same_49 rfl (lv_at hl 1 rfl) ?_
        refine zr_iald (v := u 14 (zn a1)) X hW dX10_same_50 (zm_s14 hM) rfl rfl (zi_vp (by omega)) rfl ?_
        refine lv_aload_n X.1 X.2.1 dX10_same_51 rfl (lv_at hl 0 rfl) ?_
        refine zr_get (v := .ref (ad 14)) X hW fs_X10_44_9 dX10_same_52 (zm_s0 hM) rfl rfl rfl ?_
        refine lv_iload_n X.1 X.2.1 dX10_same_55 rfl (lv_at hl 2 rfl) ?_
        refine zr_iald (v := u 14 (zn b1)) X hW dX10_same_56 (zm_s14 hM) rfl rfl (zi_vp (by omega)) rfl ?_
        refine zr_icmp_ne (a := (u 14 (zn a1)).toInt) (b := (u 14 (zn b1)).toInt) (tgt := 64) X dX10_same_57 (by decide) rfl rfl (fun c_4 => ?_) (fun c_4 => ?_)
        · refine lv_iconst (v := 0) X.1 X.2.1 dX10_same_64 (by decide) ?_
          refine lv_istore_n (lv' := [(3, .int 0), (0, .ref (ad 0)), (1, .int a1), (2, .int b1)]) X.1 X.2.1 dX10_same_65 rfl hl (by decide) rfl (fun ls hl => ?_)
          refine lv_iload_n X.1 X.2.1 dX10_same_66 rfl (lv_at hl 0 rfl) ?_
          refine zr_if_eq (a := 0) (tgt := 119) X dX10_same_67 (by decide) (by decide) (fun _ => ?_) (fun c9 => absurd c9 (by decide))
          refine lv_iconst (v := 0) X.1 X.2.1 dX10_same_119 (by decide) ?_
          exact zr_zret X hW dX10_same_120 (Nat.le_refl _) (Nat.le_refl _) rfl ⟨rfl, rfl, rfl, Or.inr ⟨by omega, rfl⟩⟩
        · refine lv_iconst (v := 1) X.1 X.2.1 dX10_same_60 (by decide) ?_
          refine lv_goto (tgt := 65) X.1 X.2.1 dX10_same_61 (by decide) ?_
          refine lv_istore_n (lv' := [(3, .int 1), (0, .ref (ad 0)), (1, .int a1), (2, .int b1)]) X.1 X.2.1 dX10_same_65 rfl hl (by decide) rfl (fun ls hl => ?_)
          refine lv_iload_n X.1 X.2.1 dX10_same_66 rfl (lv_at hl 0 rfl) ?_
          refine zr_if_eq (a := 1) (tgt := 119) X dX10_same_67 (by decide) (by decide) (fun c9 => absurd c9 (by decide)) (fun _ => ?_)
          refine lv_aload_n X.1 X.2.1 dX10_same_70 rfl (lv_at hl 1 rfl) ?_
          refine zr_get (v := .ref (ad 16)) X hW fs_X10_50_9 dX10_same_71 (zm_s0 hM) rfl rfl rfl ?_
          refine lv_iload_n X.1 X.2.1 dX10_same_74 rfl (lv_at hl 2 rfl) ?_
          refine zr_iald (v := u 16 (zn a1)) X hW dX10_same_75 (zm_s16 hM) rfl rfl (zi_vp (by omega)) rfl ?_
          refine lv_aload_n X.1 X.2.1 dX10_same_76 rfl (lv_at hl 1 rfl) ?_
          refine zr_get (v := .ref (ad 16)) X hW fs_X10_50_9 dX10_same_77 (zm_s0 hM) rfl rfl rfl ?_
          refine lv_iload_n X.1 X.2.1 dX10_same_80 rfl (lv_at hl 3 rfl) ?_
          refine zr_iald (v := u 16 (zn b1)) X hW dX10_same_81 (zm_s16 hM) rfl rfl (zi_vp (by omega)) rfl ?_
          refine zr_icmp_ne (a := (u 16 (zn a1)).toInt) (b := (u 16 (zn b1)).toInt) (tgt := 119) X dX10_same_82 (by decide) rfl rfl (fun c_5 => ?_) (fun c_5 => ?_)
          · refine lv_iconst (v := 0) X.1 X.2.1 dX10_same_119 (by decide) ?_
            exact zr_zret X hW dX10_same_120 (Nat.le_refl _) (Nat.le_refl _) rfl ⟨rfl, rfl, rfl, Or.inr ⟨by omega, rfl⟩⟩
          · refine lv_aload_n X.1 X.2.1 dX10_same_85 rfl (lv_at hl 1 rfl) ?_
            refine zr_get (v := .ref (ad 17)) X hW fs_X10_53_9 dX10_same_86 (zm_s0 hM) rfl rfl rfl ?_
            refine lv_iload_n X.1 X.2.1 dX10_same_89 rfl (lv_at hl 2 rfl) ?_
            refine zr_iald (v := u 17 (zn a1)) X hW dX10_same_90 (zm_s17 hM) rfl rfl (zi_vp (by omega)) rfl ?_
            refine lv_aload_n X.1 X.2.1 dX10_same_91 rfl (lv_at hl 1 rfl) ?_
            refine zr_get (v := .ref (ad 17)) X hW fs_X10_53_9 dX10_same_92 (zm_s0 hM) rfl rfl rfl ?_
            refine lv_iload_n X.1 X.2.1 dX10_same_95 rfl (lv_at hl 3 rfl) ?_
            refine zr_iald (v := u 17 (zn b1)) X hW dX10_same_96 (zm_s17 hM) rfl rfl (zi_vp (by omega)) rfl ?_
            refine zr_icmp_ne (a := (u 17 (zn a1)).toInt) (b := (u 17 (zn b1)).toInt) (tgt := 119) X dX10_same_97 (by decide) rfl rfl (fun c_6 => ?_) (fun c_6 => ?_)
            · refine lv_iconst (v := 0) X.1 X.2.1 dX10_same_119 (by decide) ?_
              exact zr_zret X hW dX10_same_120 (Nat.le_refl _) (Nat.le_refl _) rfl ⟨rfl, rfl, rfl, Or.inr ⟨by omega, rfl⟩⟩
            · refine lv_aload_n X.1 X.2.1 dX10_same_100 rfl (lv_at hl 1 rfl) ?_
              refine zr_get (v := .ref (ad 18)) X hW fs_X10_56_9 dX10_same_101 (zm_s0 hM) rfl rfl rfl ?_
              refine lv_iload_n X.1 X.2.1 dX10_same_104 rfl (lv_at hl 2 rfl) ?_
              refine zr_iald (v := u 18 (zn a1)) X hW dX10_same_105 (zm_s18 hM) rfl rfl (zi_vp (by omega)) rfl ?_
              refine lv_aload_n X.1 X.2.1 dX10_same_106 rfl (lv_at hl 1 rfl) ?_
              refine zr_get (v := .ref (ad 18)) X hW fs_X10_56_9 dX10_same_107 (zm_s0 hM) rfl rfl rfl ?_
              refine lv_iload_n X.1 X.2.1 dX10_same_110 rfl (lv_at hl 3 rfl) ?_
              refine zr_iald (v := u 18 (zn b1)) X hW dX10_same_111 (zm_s18 hM) rfl rfl (zi_vp (by omega)) rfl ?_
              refine zr_icmp_ne (a := (u 18 (zn a1)).toInt) (b := (u 18 (zn b1)).toInt) (tgt := 119) X dX10_same_112 (by decide) rfl rfl (fun c_7 => ?_) (fun c_7 => ?_)
              · refine lv_iconst (v := 0) X.1 X.2.1 dX10_same_119 (by decide) ?_
                exact zr_zret X hW dX10_same_120 (Nat.le_refl _) (Nat.le_refl _) rfl ⟨rfl, rfl, rfl, Or.inr ⟨by omega, rfl⟩⟩
              · refine lv_iconst (v := 1) X.1 X.2.1 dX10_same_115 (by decide) ?_
                refine lv_goto (tgt := 120) X.1 X.2.1 dX10_same_116 (by decide) ?_
                exact zr_zret X hW dX10_same_120 (Nat.le_refl _) (Nat.le_refl _) rfl ⟨rfl, rfl, rfl, Or.inl ⟨by omega, rfl⟩⟩
