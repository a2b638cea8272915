def zp_S (ad : Nat → Nat) (sh : Nat → Option zw_Sh) (g0 : zm_T) (q : Int32 × zm_T) : zw_Po := zp_G ad sh (fun v g' => v = some (.int q.1) ∧ g' = zm_mix q.2 g0)
theorem zi_ix3 (a f : Int32) (ha : 0 ≤ a.toInt ∧ a.toInt ≤ 11) (hf : 0 ≤ f.toInt ∧ f.toInt ≤ 17) : (3 * a + f).toInt = 3 * a.toInt + f.toInt ∧ (3 * a + f).toNatClampNeg = 3 * zn a + zn f := by
  have h3 : (3 : Int32).toInt = 3 := rfl
  have h1 := zi_mul 3 a (by rw [h3]; omega)
  have h2 := zi_add (3 * a) f (by rw [h1, h3]; omega)
  rw [h1, h3] at h2
  refine ⟨h2, ?_⟩
  show zn (3 * a + f) = _
  rw [zi_n, h2, zi_n, zi_n]; omega
theorem zi_ix2 (a : Int32) (ha : 0 ≤ a.toInt ∧ a.toInt ≤ 5) : (2 * a).toInt = 2 * a.toInt ∧ (2 * a).toNatClampNeg = 2 * zn a := by
  have h3 : (2 : Int32).toInt = 2 := rfl
  have h1 := zi_mul 2 a (by rw [h3]; omega)
  rw [h3] at h1
  refine ⟨h1, ?_⟩
  show zn (2 * a) = _
  rw [zi_n, h1, zi_n]; omega
theorem zi_ix2t (a f : Int32) (ha : 0 ≤ a.toInt ∧ a.toInt ≤ 5) (hf : 0 ≤ f.toInt ∧ f.toInt ≤ 1) : (2 * a + f).toInt = 2 * a.toInt + f.toInt ∧ (2 * a + f).toNatClampNeg = 2 * zn a + zn f := by
  have h1 := (zi_ix2 a ha).1
  have h2 := zi_add (2 * a) f (by rw [h1]; omega)
  rw [h1] at h2
  refine ⟨h2, ?_⟩
  show zn (2 * a + f) = _
  rw [zi_n, h2, zi_n, zi_n]; omega
theorem zi_ix21 (a : Int32) (ha : 0 ≤ a.toInt ∧ a.toInt ≤ 5) : (2 * a + 1).toInt = 2 * a.toInt + 1 ∧ (2 * a + 1).toNatClampNeg = 2 * zn a + 1 := zi_ix2t a 1 ha (by decide)

set_option maxHeartbeats 4000000 in
set_option maxRecDepth 100000 in
theorem c_X10_remove (l : Launch) (Y : zw_Y) (N0 : Nat) (ad : Nat → Nat) (sh : Nat → Option zw_Sh) (u g0 : zm_T) (hM : zm_S sh) (a : Int32) (hI : zm_I u) : zw_Met l Y N0 yX10_remove cX10_remove 3 (some .boolean) 2 43 0 0 ad sh (zm_mix u g0) [.ref (ad 0), .int a] (zp_S ad sh g0 (sp_remove a u)) := by
  refine zw_meth (by decide) (Nat.le_of_ble_eq_true rfl) ?_
  intro p e s m below meth c ls X hnm hl hW
  have hl : lv_has ls 3 [(0, .ref (ad 0)), (1, .int a)] := hl
  refine lv_aload_n X.1 X.2.1 dX10_remove_0 rfl (lv_at hl 0 rfl) ?_
  refine lv_iload_n X.1 X.2.1 dX10_remove_1 rfl (lv_at hl 1 rfl) ?_
  refine zr_callV (As := [.int a]) (rest := []) X hW hl.1 md_X10_booked ms_X10_94 dX10_remove_2 (zm_s0 hM) rfl rfl rfl rfl (Nat.le_of_ble_eq_true rfl) ⟨Nat.le_of_ble_eq_true rfl, Nat.le_of_ble_eq_true rfl⟩ ⟨Nat.le_of_ble_eq_true rfl, Nat.le_of_ble_eq_true rfl⟩ (c_X10_booked l Y N0 ad sh u g0 hM a) (fun v9 ad9 sh9 g9 H locs hp hW => ?_)
  rcases hp with ⟨rfl, rfl, rfl, ⟨h_1, h9⟩ | ⟨h_1, h9⟩⟩
  · subst h9
    have h_1 : zs_bk u a := h_1
    refine lv_istore_n (lv' := [(2, .int 1), (0, .ref (ad 0)), (1, .int a)]) X.1 X.2.1 dX10_remove_5 rfl hl (by decide) rfl (fun ls hl => ?_)
    refine lv_iload_n X.1 X.2.1 dX10_remove_6 rfl (lv_at hl 0 rfl) ?_
    refine zr_if_eq (a := 1) (tgt := 17) X dX10_remove_7 (by decide) (by decide) (fun c9 => absurd c9 (by decide)) (fun _ => ?_)
    refine lv_aload_n X.1 X.2.1 dX10_remove_10 rfl (lv_at hl 1 rfl) ?_
    refine zr_get (v := .ref (ad 5)) X hW fs_X10_20_9 dX10_remove_11 (zm_s0 hM) rfl rfl rfl ?_
    refine lv_iload_n X.1 X.2.1 dX10_remove_14 rfl (lv_at hl 2 rfl) ?_
    refine lv_iconst (v := (-1)) X.1 X.2.1 dX10_remove_15 (by decide) ?_
    refine zr_iast X hW dX10_remove_16 (zm_s5 hM) rfl rfl (zi_vp (by omega)) (fun H locs hW => ?_)
    have hW : zw_St Y N0 ad sh (zm_mix (zm_w u 5 (zn a) ((-1))) g0) s H locs := zm_st (by decide) hW
    obtain ⟨u_2, hu_2⟩ : ∃ z : zm_T, z = zm_w u 5 (zn a) ((-1)) := ⟨_, rfl⟩
    rw [← hu_2] at hW
    refine lv_iload_n X.1 X.2.1 dX10_remove_17 rfl (lv_at hl 0 rfl) ?_
    have e9 : sp_remove a u = (1, u_2) := (by subst hu_2; unfold sp_remove; (repeat (first | refine (if_pos (by omega)).trans ?_ | refine (if_neg (by omega)).trans ?_)); first | rfl | (rw [zm_ws]))
    exact zr_zret X hW dX10_remove_18 (Nat.le_refl _) (Nat.le_refl _) rfl ⟨rfl, rfl, by rw [e9], by rw [e9]⟩
  · subst h9
    have h_1 : ¬ (zs_bk u a) := h_1
    refine lv_istore_n (lv' := [(2, .int 0), (0, .ref (ad 0)), (1, .int a)]) X.1 X.2.1 dX10_remove_5 rfl hl (by decide) rfl (fun ls hl => ?_)
    refine lv_iload_n X.1 X.2.1 dX10_remove_6 rfl (lv_at hl 0 rfl) ?_
    refine zr_if_eq (a := 0) (tgt := 17) X dX10_remove_7 (by decide) (by decide) (fun _ => ?_) (fun c9 => absurd c9 (by decide))
    refine lv_iload_n X.1 X.2.1 dX10_remove_17 rfl (lv_at hl 0 rfl) ?_
    have e9 : sp_remove a u = (0, u) := (by unfold sp_remove; (repeat (first | refine (if_pos (by omega)).trans ?_ | refine (if_neg (by omega)).trans ?_)); first | rfl | (rw [zm_ws]))
    exact zr_zret X hW dX10_remove_18 (Nat.le_refl _) (Nat.le_refl _) rfl ⟨rfl, rfl, by rw [e9], by rw [e9]⟩

set_option maxHeartbeats 4000000 in
set_option maxRecDepth 100000 in
theorem c_X10_limit (l : Launch) (Y : zw_Y) (N0 : Nat) (ad : Nat → Nat) (sh : Nat → Option zw_Sh) (u g0 : zm_T) (hM : zm_S sh) (a n : Int32) (hI : zm_I u) : zw_Met l Y N0 yX10_limit cX10_limit 3 (some .boolean) 2 43 0 0 ad sh (zm_mix u g0) [.ref (ad 0), .int a, .int n] (zp_S ad sh g0 (sp_limit a n u)) := by
  refine zw_meth (by decide) (Nat.le_of_ble_eq_true rfl) ?_
  intro p e s m below meth c ls X hnm hl hW
  have hl : lv_has ls 3 [(0, .ref (ad 0)), (1, .int a), (2, .int n)] := hl
  refine lv_aload_n X.1 X.2.1 dX10_limit_0 rfl (lv_at hl 0 rfl) ?_
  refine lv_iload_n X.1 X.2.1 dX10_limit_1 rfl (lv_at hl 1 rfl) ?_
  refine zr_callV (As := [.int a]) (rest := []) X hW hl.1 md_X10_booked ms_X10_94 dX10_limit_2 (zm_s0 hM) rfl rfl rfl rfl (Nat.le_of_ble_eq_true rfl) ⟨Nat.le_of_ble_eq_true rfl, Nat.le_of_ble_eq_true rfl⟩ ⟨Nat.le_of_ble_eq_true rfl, Nat.le_of_ble_eq_true rfl⟩ (c_X10_booked l Y N0 ad sh u g0 hM a) (fun v9 ad9 sh9 g9 H locs hp hW => ?_)
  rcases hp with ⟨rfl, rfl, rfl, ⟨h_1, h9⟩ | ⟨h_1, h9⟩⟩
  · subst h9
    have h_1 : zs_bk u a := h_1
    refine zr_if_eq (a := 1) (tgt := 19) X dX10_limit_5 (by decide) (by decide) (fun c9 => absurd c9 (by decide)) (fun _ => ?_)
    refine lv_iload_n X.1 X.2.1 dX10_limit_8 rfl (lv_at hl 2 rfl) ?_
    refine lv_iconst (v := 1) X.1 X.2.1 dX10_limit_9 (by decide) ?_
    refine lv_sipush (v := 1000) X.1 X.2.1 dX10_limit_10 (by decide) ?_
    refine zr_callS (As := [.int n, .int 1, .int 1000]) (rest := []) X hW hl.1 md_X10_in ms_X10_87 dX10_limit_13 rfl rfl (Nat.le_of_ble_eq_true rfl) ⟨Nat.le_of_ble_eq_true rfl, Nat.le_of_ble_eq_true rfl⟩ ⟨Nat.le_of_ble_eq_true rfl, Nat.le_of_ble_eq_true rfl⟩ (c_X10_in l Y N0 ad sh (zm_mix u g0) n 1 1000) (fun v9 ad9 sh9 g9 H locs hp hW => ?_)
    rcases hp with ⟨rfl, rfl, rfl, ⟨h_2, h9⟩ | ⟨h_2, h9⟩⟩
    · subst h9
      have h_2 : zi_in n 1 1000 := h_2
      refine zr_if_ne (a := 1) (tgt := 21) X dX10_limit_16 (by decide) (by decide) (fun _ => ?_) (fun c9 => absurd c9 (by decide))
      refine lv_aload_n X.1 X.2.1 dX10_limit_21 rfl (lv_at hl 0 rfl) ?_
      refine zr_get (v := .ref (ad 6)) X hW fs_X10_23_9 dX10_limit_22 (zm_s0 hM) rfl rfl rfl ?_
      refine lv_iload_n X.1 X.2.1 dX10_limit_25 rfl (lv_at hl 1 rfl) ?_
      refine lv_iload_n X.1 X.2.1 dX10_limit_26 rfl (lv_at hl 2 rfl) ?_
      refine zr_iast X hW dX10_limit_27 (zm_s6 hM) rfl rfl (zi_vp (by omega)) (fun H locs hW => ?_)
      have hW : zw_St Y N0 ad sh (zm_mix (zm_w u 6 (zn a) n) g0) s H locs := zm_st (by decide) hW
      obtain ⟨u_3, hu_3⟩ : ∃ z : zm_T, z = zm_w u 6 (zn a) n := ⟨_, rfl⟩
      rw [← hu_3] at hW
      refine lv_iconst (v := 1) X.1 X.2.1 dX10_limit_28 (by decide) ?_
      have e9 : sp_limit a n u = (1, u_3) := (by subst hu_3; unfold sp_limit; (repeat (first | refine (if_pos (by omega)).trans ?_ | refine (if_neg (by omega)).trans ?_)); first | rfl | (rw [zm_ws]))
      exact zr_zret X hW dX10_limit_29 (Nat.le_refl _) (Nat.le_refl _) rfl ⟨rfl, rfl, by rw [e9], by rw [e9]⟩
    · subst h9
      have h_2 : ¬ (zi_in n 1 1000) := h_2
      refine zr_if_ne (a := 0) (tgt := 21) X dX10_limit_16 (by decide) (by decide) (fun c9 => absurd c9 (by decide)) (fun _ => ?_)
      refine lv_iconst (v := 0) X.1 X.2.1 dX10_limit_19 (by decide) ?_
      have e9 : sp_limit a n u = (0, u) := (by unfold sp_limit; (repeat (first | refine (if_pos (by omega)).trans ?_ | refine (if_neg (by omega)).trans ?_)); first | rfl | (rw [zm_ws]))
      exact zr_zret X hW dX10_limit_20 (Nat.le_refl _) (Nat.le_refl _) rfl ⟨rfl, rfl, by rw [e9], by rw [e9]⟩
  · subst h9
    have h_1 : ¬ (zs_bk u a) := h_1
    refine zr_if_eq (a := 0) (tgt := 19) X dX10_limit_5 (by decide) (by decide) (fun _ => ?_) (fun c9 => absurd c9 (by decide))
    refine lv_iconst (v := 0) X.1 X.2.1 dX10_limit_19 (by decide) ?_
    have e9 : sp_limit a n u = (0, u) := (by unfold sp_limit; (repeat (first | refine (if_pos (by omega)).trans ?_ | refine (if_neg (by omega)).trans ?_)); first | rfl | (rw [zm_ws]))
    exact zr_zret X hW dX10_limit_20 (Nat.le_refl _) (Nat.le_refl _) rfl ⟨rfl, rfl, by rw [e9], by rw [e9]⟩

set_option maxHeartbeats 4000000 in
set_option maxRecDepth 100000 in
theorem c_X10_allow (l : Launch) (Y : zw_Y) (N0 : Nat) (ad : Nat → Nat) (sh : Nat → Option zw_Sh) (u g0 : zm_T) (hM : zm_S sh) (a f r : Int32) (hI : zm_I u) : zw_Met l Y N0 yX10_allow cX10_allow 4 (some .boolean) 2 43 0 0 ad sh (zm_mix u g0) [.ref (ad 0), .int a, .int f, .int r] (zp_S ad sh g0 (sp_allow a f r u)) := by
  refine zw_meth (by decide) (Nat.le_of_ble_eq_true rfl) ?_
  intro p e s m below meth c ls X hnm hl hW
  have hl : lv_has ls 4 [(0, .ref (ad 0)), (1, .int a), (2, .int f), (3, .int r)] := hl
  refine lv_aload_n X.1 X.2.1 dX10_allow_0 rfl (lv_at hl 0 rfl) ?_
  refine lv_iload_n X.1 X.2.1 dX10_allow_1 rfl (lv_at hl 1 rfl) ?_
  refine zr_callV (As := [.int a]) (rest := []) X hW hl.1 md_X10_booked ms_X10_94 dX10_allow_2 (zm_s0 hM) rfl rfl rfl rfl (Nat.le_of_ble_eq_true rfl) ⟨Nat.le_of_ble_eq_true rfl, Nat.le_of_ble_eq_true rfl⟩ ⟨Nat.le_of_ble_eq_true rfl, Nat.le_of_ble_eq_true rfl⟩ (c_X10_booked l Y N0 ad sh u g0 hM a) (fun v9 ad9 sh9 g9 H locs hp hW => ?_)
  rcases hp with ⟨rfl, rfl, rfl, ⟨h_1, h9⟩ | ⟨h_1, h9⟩⟩
  · subst h9
    have h_1 : zs_bk u a := h_1
    refine zr_if_eq (a := 1) (tgt := 26) X dX10_allow_5 (by decide) (by decide) (fun c9 => absurd c9 (by decide)) (fun _ => ?_)
    refine lv_iload_n X.1 X.2.1 dX10_allow_8 rfl (lv_at hl 2 rfl) ?_
    refine lv_iconst (v := 0) X.1 X.2.1 dX10_allow_9 (by decide) ?_
    refine lv_iconst (v := 2) X.1 X.2.1 dX10_allow_10 (by decide) ?_
    refine zr_callS (As := [.int f, .int 0, .int 2]) (rest := []) X hW hl.1 md_X10_in ms_X10_87 dX10_allow_11 rfl rfl (Nat.le_of_ble_eq_true rfl) ⟨Nat.le_of_ble_eq_true rfl, Nat.le_of_ble_eq_true rfl⟩ ⟨Nat.le_of_ble_eq_true rfl, Nat.le_of_ble_eq_true rfl⟩ (c_X10_in l Y N0 ad sh (zm_mix u g0) f 0 2) (fun v9 ad9 sh9 g9 H locs hp hW => ?_)
    rcases hp with ⟨rfl, rfl, rfl, ⟨h_2, h9⟩ | ⟨h_2, h9⟩⟩
    · subst h9
      have h_2 : zi_in f 0 2 := h_2
      refine zr_if_eq (a := 1) (tgt := 26) X dX10_allow_14 (by decide) (by decide) (fun c9 => absurd c9 (by decide)) (fun _ => ?_)
      refine lv_iload_n X.1 X.2.1 dX10_allow_17 rfl (lv_at hl 3 rfl) ?_
      refine lv_iconst (v := 0) X.1 X.2.1 dX10_allow_18 (by decide) ?_
      refine lv_iconst (v := 3) X.1 X.2.1 dX10_allow_19 (by decide) ?_
      refine zr_callS (As := [.int r, .int 0, .int 3]) (rest := []) X hW hl.1 md_X10_in ms_X10_87 dX10_allow_20 rfl rfl (Nat.le_of_ble_eq_true rfl) ⟨Nat.le_of_ble_eq_true rfl, Nat.le_of_ble_eq_true rfl⟩ ⟨Nat.le_of_ble_eq_true rfl, Nat.le_of_ble_eq_true rfl⟩ (c_X10_in l Y N0 ad sh (zm_mix u g0) r 0 3) (fun v9 ad9 sh9 g9 H locs hp hW => ?_)
      rcases hp with ⟨rfl, rfl, rfl, ⟨h_3, h9⟩ | ⟨h_3, h9⟩⟩
      · subst h9
        have h_3 : zi_in r 0 3 := h_3
        refine zr_if_ne (a := 1) (tgt := 28) X dX10_allow_23 (by decide) (by decide) (fun _ => ?_) (fun c9 => absurd c9 (by decide))
        refine lv_aload_n X.1 X.2.1 dX10_allow_28 rfl (lv_at hl 0 rfl) ?_
        refine zr_get (v := .ref (ad 7)) X hW fs_X10_26_9 dX10_allow_29 (zm_s0 hM) rfl rfl rfl ?_
        refine lv_iconst (v := 3) X.1 X.2.1 dX10_allow_32 (by decide) ?_
        refine lv_iload_n X.1 X.2.1 dX10_allow_33 rfl (lv_at hl 1 rfl) ?_
        refine lv_imul X.1 X.2.1 dX10_allow_34 ?_
        refine lv_iload_n X.1 X.2.1 dX10_allow_35 rfl (lv_at hl 2 rfl) ?_
        refine lv_iadd X.1 X.2.1 dX10_allow_36 ?_
        refine lv_iload_n X.1 X.2.1 dX10_allow_37 rfl (lv_at hl 3 rfl) ?_
        have hx_4 := zi_ix3 a f (by omega) (by omega)
        obtain ⟨hx_4, hx_4n⟩ := hx_4
        refine zr_iast X hW dX10_allow_38 (zm_s7 hM) rfl rfl (zi_vp (by omega)) (fun H locs hW => ?_)
        rw [hx_4n] at hW
        have hW : zw_St Y N0 ad sh (zm_mix (zm_w u 7 (3 * zn a + zn f) r) g0) s H locs := zm_st (by decide) hW
        obtain ⟨u_5, hu_5⟩ : ∃ z : zm_T, z = zm_w u 7 (3 * zn a + zn f) r := ⟨_, rfl⟩
        rw [← hu_5] at hW
        refine lv_iconst (v := 1) X.1 X.2.1 dX10_allow_39 (by decide) ?_
        have e9 : sp_allow a f r u = (1, u_5) := (by subst hu_5; unfold sp_allow; (repeat (first | refine (if_pos (by omega)).trans ?_ | refine (if_neg (by omega)).trans ?_)); first | rfl | (rw [zm_ws]))
        exact zr_zret X hW dX10_allow_40 (Nat.le_refl _) (Nat.le_refl _) rfl ⟨rfl, rfl, by rw [e9], by rw [e9]⟩
      · subst h9
        have h_3 : ¬ (zi_in r 0 3) := h_3
        refine zr_if_ne (a := 0) (tgt := 28) X dX10_allow_23 (by decide) (by decide) (fun c9 => absurd c9 (by decide)) (fun _ => ?_)
        refine lv_iconst (v := 0) X.1 X.2.1 dX10_allow_26 (by decide) ?_
        have e9 : sp_allow a f r u = (0, u) := (by unfold sp_allow; (repeat (first | refine (if_pos (by omega)).trans ?_ | refine (if_neg (by omega)).trans ?_)); first | rfl | (rw [zm_ws]))
        exact zr_zret X hW dX10_allow_27 (Nat.le_refl _) (Nat.le_refl _) rfl ⟨rfl, rfl, by rw [e9], by rw [e9]⟩
    · subst h9
      have h_2 : ¬ (zi_in f 0 2) := h_2
      refine zr_if_eq (a := 0) (tgt := 26) X dX10_allow_14 (by decide) (by decide) (fun _ => ?_) (fun c9 => absurd c9 (by decide))
      refine lv_iconst (v := 0) X.1 X.2.1 dX10_allow_26 (by decide) ?_
      have e9 : sp_allow a f r u = (0, u) := (by unfold sp_allow; (repeat (first | refine (if_pos (by omega)).trans ?_ | refine (if_neg (by omega)).trans ?_)); first | rfl | (rw [zm_ws]))
      exact zr_zret X hW dX10_allow_27 (Nat.le_refl _) (Nat.le_refl _) rfl ⟨rfl, rfl, by rw [e9], by rw [e9]⟩
  · subst h9
    have h_1 : ¬ (zs_bk u a) := h_1
    refine zr_if_eq (a := 0) (tgt := 26) X dX10_allow_5 (by decide) (by decide) (fun _ => ?_) (fun c9 => absurd c9 (by decide))
    refine lv_iconst (v := 0) X.1 X.2.1 dX10_allow_26 (by decide) ?_
    have e9 : sp_allow a f r u = (0, u) := (by unfold sp_allow; (repeat (first | refine (if_pos (by omega)).trans ?_ | refine (if_neg (by omega)).trans ?_)); first | rfl | (rw [zm_ws]))
    exact zr_zret X hW dX10_allow_27 (Nat.le_refl _) (Nat.le_refl _) rfl ⟨rfl, rfl, by rw [e9], by rw [e9]⟩

set_option maxHeartbeats 4000000 in
set_option maxRecDepth 100000 in
theorem c_X10_tick (l : Launch) (Y : zw_Y) (N0 : Nat) (ad : Nat → Nat) (sh : Nat → Option zw_Sh) (u g0 : zm_T) (hM : zm_S sh) (a n : Int32) (hI : zm_I u) : zw_Met l Y N0 yX10_tick cX10_tick 3 (some .int) 1 22 0 0 ad sh (zm_mix u g0) [.ref (ad 0), .int a, .int n] (zp_S ad sh g0 (sp_tick a n u)) := by
  refine zw_meth (by decide) (Nat.le_of_ble_eq_true rfl) ?_
  intro p e s m below meth c ls X hnm hl hW
  have hl : lv_has ls 3 [(0, .ref (ad 0)), (1, .int a), (2, .int n)] := hl
  refine lv_iload_n X.1 X.2.1 dX10_tick_0 rfl (lv_at hl 1 rfl) ?_
  refine lv_iconst (v := 0) X.1 X.2.1 dX10_tick_1 (by decide) ?_
  refine lv_iconst (v := 5) X.1 X.2.1 dX10_tick_2 (by decide) ?_
  refine zr_callS (As := [.int a, .int 0, .int 5]) (rest := []) X hW hl.1 md_X10_in ms_X10_87 dX10_tick_3 rfl rfl (Nat.le_of_ble_eq_true rfl) ⟨Nat.le_of_ble_eq_true rfl, Nat.le_of_ble_eq_true rfl⟩ ⟨Nat.le_of_ble_eq_true rfl, Nat.le_of_ble_eq_true rfl⟩ (c_X10_in l Y N0 ad sh (zm_mix u g0) a 0 5) (fun v9 ad9 sh9 g9 H locs hp hW => ?_)
  rcases hp with ⟨rfl, rfl, rfl, ⟨h_1, h9⟩ | ⟨h_1, h9⟩⟩
  · subst h9
    have h_1 : zi_in a 0 5 := h_1
    refine zr_if_eq (a := 1) (tgt := 20) X dX10_tick_6 (by decide) (by decide) (fun c9 => absurd c9 (by decide)) (fun _ => ?_)
    refine lv_iload_n X.1 X.2.1 dX10_tick_9 rfl (lv_at hl 2 rfl) ?_
    refine lv_iconst (v := 1) X.1 X.2.1 dX10_tick_10 (by decide) ?_
    refine lv_sipush (v := 1000) X.1 X.2.1 dX10_tick_11 (by decide) ?_
    refine zr_callS (As := [.int n, .int 1, .int 1000]) (rest := []) X hW hl.1 md_X10_in ms_X10_87 dX10_tick_14 rfl rfl (Nat.le_of_ble_eq_true rfl) ⟨Nat.le_of_ble_eq_true rfl, Nat.le_of_ble_eq_true rfl⟩ ⟨Nat.le_of_ble_eq_true rfl, Nat.le_of_ble_eq_true rfl⟩ (c_X10_in l Y N0 ad sh (zm_mix u g0) n 1 1000) (fun v9 ad9 sh9 g9 H locs hp hW => ?_)
    rcases hp with ⟨rfl, rfl, rfl, ⟨h_2, h9⟩ | ⟨h_2, h9⟩⟩
    · subst h9
      have h_2 : zi_in n 1 1000 := h_2
      refine zr_if_ne (a := 1) (tgt := 22) X dX10_tick_17 (by decide) (by decide) (fun _ => ?_) (fun c9 => absurd c9 (by decide))
      refine lv_aload_n X.1 X.2.1 dX10_tick_22 rfl (lv_at hl 0 rfl) ?_
      refine zr_get (v := .ref (ad 1)) X hW fs_X10_7_9 dX10_tick_23 (zm_s0 hM) rfl rfl rfl ?_
      refine lv_iload_n X.1 X.2.1 dX10_tick_26 rfl (lv_at hl 1 rfl) ?_
      refine lv_dup2_11 X.1 X.2.1 dX10_tick_27 rfl rfl ?_
      refine zr_iald (v := u 1 (zn a)) X hW dX10_tick_28 (zm_s1 hM) rfl rfl (zi_vp (by omega)) rfl ?_
      refine lv_iload_n X.1 X.2.1 dX10_tick_29 rfl (lv_at hl 2 rfl) ?_
      refine lv_iadd X.1 X.2.1 dX10_tick_30 ?_
      refine zr_iast X hW dX10_tick_31 (zm_s1 hM) rfl rfl (zi_vp (by omega)) (fun H locs hW => ?_)
      have hW : zw_St Y N0 ad sh (zm_mix (zm_w u 1 (zn a) ((u 1 (zn a)) + n)) g0) s H locs := zm_st (by decide) hW
      obtain ⟨u_3, hu_3⟩ : ∃ z : zm_T, z = zm_w u 1 (zn a) ((u 1 (zn a)) + n) := ⟨_, rfl⟩
      rw [← hu_3] at hW
      refine lv_aload_n X.1 X.2.1 dX10_tick_32 rfl (lv_at hl 0 rfl) ?_
      refine zr_get (v := .ref (ad 1)) X hW fs_X10_7_9 dX10_tick_33 (zm_s0 hM) rfl rfl rfl ?_
      refine lv_iload_n X.1 X.2.1 dX10_tick_36 rfl (lv_at hl 1 rfl) ?_
      refine zr_iald (v := (u 1 (zn a)) + n) X hW dX10_tick_37 (zm_s1 hM) rfl rfl (zi_vp (by omega)) ((show zm_mix u_3 g0 1 (a : Int32).toNatClampNeg = u_3 1 (zn a) from rfl).trans (show u_3 1 (zn a) = (u 1 (zn a)) + n from (by rw [hu_3]; exact zm_ws _ _ _ _))) ?_
      have e9 : sp_tick a n u = ((u 1 (zn a)) + n, u_3) := (by subst hu_3; unfold sp_tick; (repeat (first | refine (if_pos (by omega)).trans ?_ | refine (if_neg (by omega)).trans ?_)); first | rfl | (rw [zm_ws]))
      exact zr_iret X hW dX10_tick_38 (Nat.le_refl _) (Nat.le_refl _) ⟨rfl, rfl, by rw [e9], by rw [e9]⟩
    · subst h9
      have h_2 : ¬ (zi_in n 1 1000) := h_2
      refine zr_if_ne (a := 0) (tgt := 22) X dX10_tick_17 (by decide) (by decide) (fun c9 => absurd c9 (by decide)) (fun _ => ?_)
      refine lv_iconst (v := (-1)) X.1 X.2.1 dX10_tick_20 (by decide) ?_
      have e9 : sp_tick a n u = ((-1), u) := (by unfold sp_tick; (repeat (first | refine (if_pos (by omega)).trans ?_ | refine (if_neg (by omega)).trans ?_)); first | rfl | (rw [zm_ws]))
      exact zr_iret X hW dX10_tick_21 (Nat.le_refl _) (Nat.le_refl _) ⟨rfl, rfl, by rw [e9], by rw [e9]⟩
  · subst h9
    have h_1 : ¬ (zi_in a 0 5) := h_1
    refine zr_if_eq (a := 0) (tgt := 20) X dX10_tick_6 (by decide) (by decide) (fun _ => ?_) (fun c9 => absurd c9 (by decide))
    refine lv_iconst (v := (-1)) X.1 X.2.1 dX10_tick_20 (by decide) ?_
    have e9 : sp_tick a n u = ((-1), u) := (by unfold sp_tick; (repeat (first | refine (if_pos (by omega)).trans ?_ | refine (if_neg (by omega)).trans ?_)); first | rfl | (rw [zm_ws]))
    exact zr_iret X hW dX10_tick_21 (Nat.le_refl _) (Nat.le_refl _) ⟨rfl, rfl, by rw [e9], by rw [e9]⟩

set_option maxHeartbeats 4000000 in
set_option maxRecDepth 100000 in
theorem c_X10_steal (l : Launch) (Y : zw_Y) (N0 : Nat) (ad : Nat → Nat) (sh : Nat → Option zw_Sh) (u g0 : zm_T) (hM : zm_S sh) (a : Int32) (hI : zm_I u) : zw_Met l Y N0 yX10_steal cX10_steal 2 (some .int) 1 22 0 0 ad sh (zm_mix u g0) [.ref (ad 0), .int a] (zp_S ad sh g0 (sp_steal a u)) := by
  refine zw_meth (by decide) (Nat.le_of_ble_eq_true rfl) ?_
  intro p e s m below meth c ls X hnm hl hW
  have hl : lv_has ls 2 [(0, .ref (ad 0)), (1, .int a)] := hl
  refine lv_iload_n X.1 X.2.1 dX10_steal_0 rfl (lv_at hl 1 rfl) ?_
  refine lv_iconst (v := 0) X.1 X.2.1 dX10_steal_1 (by decide) ?_
  refine lv_iconst (v := 5) X.1 X.2.1 dX10_steal_2 (by decide) ?_
  refine zr_callS (As := [.int a, .int 0, .int 5]) (rest := []) X hW hl.1 md_X10_in ms_X10_87 dX10_steal_3 rfl rfl (Nat.le_of_ble_eq_true rfl) ⟨Nat.le_of_ble_eq_true rfl, Nat.le_of_ble_eq_true rfl⟩ ⟨Nat.le_of_ble_eq_true rfl, Nat.le_of_ble_eq_true rfl⟩ (c_X10_in l Y N0 ad sh (zm_mix u g0) a 0 5) (fun v9 ad9 sh9 g9 H locs hp hW => ?_)
  rcases hp with ⟨rfl, rfl, rfl, ⟨h_1, h9⟩ | ⟨h_1, h9⟩⟩
  · subst h9
    have h_1 : zi_in a 0 5 := h_1
    refine zr_if_eq (a := 1) (tgt := 18) X dX10_steal_6 (by decide) (by decide) (fun c9 => absurd c9 (by decide)) (fun _ => ?_)
    refine lv_aload_n X.1 X.2.1 dX10_steal_9 rfl (lv_at hl 0 rfl) ?_
    refine zr_get (v := .ref (ad 3)) X hW fs_X10_13_9 dX10_steal_10 (zm_s0 hM) rfl rfl rfl ?_
    refine lv_iload_n X.1 X.2.1 dX10_steal_13 rfl (lv_at hl 1 rfl) ?_
    refine zr_iald (v := u 3 (zn a)) X hW dX10_steal_14 (zm_s3 hM) rfl rfl (zi_vp (by omega)) rfl ?_
    refine zr_if_ge (a := (u 3 (zn a)).toInt) (tgt := 20) X dX10_steal_15 (by decide) rfl (fun c_2 => ?_) (fun c_2 => ?_)
    · have hke := zI_ke hI
      have how := zI_ow hI (zn a) (by rw [zi_n]; omega)
      refine lv_aload_n X.1 X.2.1 dX10_steal_20 rfl (lv_at hl 0 rfl) ?_
      refine zr_get (v := .ref (ad 4)) X hW fs_X10_16_9 dX10_steal_21 (zm_s0 hM) rfl rfl rfl ?_
      refine lv_aload_n X.1 X.2.1 dX10_steal_24 rfl (lv_at hl 0 rfl) ?_
      refine zr_get (v := .ref (ad 3)) X hW fs_X10_13_9 dX10_steal_25 (zm_s0 hM) rfl rfl rfl ?_
      refine lv_iload_n X.1 X.2.1 dX10_steal_28 rfl (lv_at hl 1 rfl) ?_
      refine zr_iald (v := u 3 (zn a)) X hW dX10_steal_29 (zm_s3 hM) rfl rfl (zi_vp (by omega)) rfl ?_
      refine lv_iconst (v := 1) X.1 X.2.1 dX10_steal_30 (by decide) ?_
      refine zr_zast X hW dX10_steal_31 (zm_s4 hM) rfl rfl (zi_vp (by omega)) rfl (fun H locs hW => ?_)
      have hW : zw_St Y N0 ad sh (zm_mix (zm_w u 4 (zn (u 3 (zn a))) 1) g0) s H locs := zm_st (by decide) hW
      obtain ⟨u_3, hu_3⟩ : ∃ z : zm_T, z = zm_w u 4 (zn (u 3 (zn a))) 1 := ⟨_, rfl⟩
      rw [← hu_3] at hW
      refine lv_aload_n X.1 X.2.1 dX10_steal_32 rfl (lv_at hl 0 rfl) ?_
      refine zr_get (v := .ref (ad 3)) X hW fs_X10_13_9 dX10_steal_33 (zm_s0 hM) rfl rfl rfl ?_
      refine lv_iload_n X.1 X.2.1 dX10_steal_36 rfl (lv_at hl 1 rfl) ?_
      refine zr_iald (v := u 3 (zn a)) X hW dX10_steal_37 (zm_s3 hM) rfl rfl (zi_vp (by omega)) ((show zm_mix u_3 g0 3 (a : Int32).toNatClampNeg = u_3 3 (zn a) from rfl).trans (show u_3 3 (zn a) = u 3 (zn a) from (by rw [hu_3]; rfl))) ?_
      have e9 : sp_steal a u = (u 3 (zn a), u_3) := (by subst hu_3; unfold sp_steal; (repeat (first | refine (if_pos (by omega)).trans ?_ | refine (if_neg (by omega)).trans ?_)); first | rfl | (rw [zm_ws]))
      exact zr_iret X hW dX10_steal_38 (Nat.le_refl _) (Nat.le_refl _) ⟨rfl, rfl, by rw [e9], by rw [e9]⟩
    · refine lv_iconst (v := (-1)) X.1 X.2.1 dX10_steal_18 (by decide) ?_
      have e9 : sp_steal a u = ((-1), u) := (by unfold sp_steal; (repeat (first | refine (if_pos (by omega)).trans ?_ | refine (if_neg (by omega)).trans ?_)); first | rfl | (rw [zm_ws]))
      exact zr_iret X hW dX10_steal_19 (Nat.le_refl _) (Nat.le_refl _) ⟨rfl, rfl, by rw [e9], by rw [e9]⟩
  · subst h9
    have h_1 : ¬ (zi_in a 0 5) := h_1
    refine zr_if_eq (a := 0) (tgt := 18) X dX10_steal_6 (by decide) (by decide) (fun _ => ?_) (fun c9 => absurd c9 (by decide))
    refine lv_iconst (v := (-1)) X.1 X.2.1 dX10_steal_18 (by decide) ?_
    have e9 : sp_steal a u = ((-1), u) := (by unfold sp_steal; (repeat (first | refine (if_pos (by omega)).trans ?_ | refine (if_neg (by omega)).trans ?_)); first | rfl | (rw [zm_ws]))
    exact zr_iret X hW dX10_steal_19 (Nat.le_refl _) (Nat.le_refl _) ⟨rfl, rfl, by rw [e9], by rw [e9]⟩

set_option maxHeartbeats 4000000 in
set_option maxRecDepth 100000 in
theorem c_X10_learn (l : Launch) (Y : zw_Y) (N0 : Nat) (ad : Nat → Nat) (sh : Nat → Option zw_Sh) (u g0 : zm_T) (hM : zm_S sh) (q : Int32) (hI : zm_I u) : zw_Met l Y N0 yX10_learn cX10_learn 2 (some .int) 1 22 0 0 ad sh (zm_mix u g0) [.ref (ad 0), .int q] (zp_S ad sh g0 (sp_learn q u)) := by
  refine zw_meth (by decide) (Nat.le_of_ble_eq_true rfl) ?_
  intro p e s m below meth c ls X hnm hl hW
  have hl : lv_has ls 2 [(0, .ref (ad 0)), (1, .int q)] := hl
  have hse := zI_se hI
  have hke := zI_ke hI
  have hs1 := zi_sub (u 0 8) 1 (by rw [show (1 : Int32).toInt = 1 from rfl]; omega)
  rw [show (1 : Int32).toInt = 1 from rfl] at hs1
  refine lv_iload_n X.1 X.2.1 dX10_learn_0 rfl (lv_at hl 1 rfl) ?_
  refine lv_iconst (v := 0) X.1 X.2.1 dX10_learn_1 (by decide) ?_
  refine lv_aload_n X.1 X.2.1 dX10_learn_2 rfl (lv_at hl 0 rfl) ?_
  refine zr_get (v := .int (u 0 8)) X hW fs_X10_102_9 dX10_learn_3 (zm_s0 hM) rfl rfl rfl ?_
  refine lv_iconst (v := 1) X.1 X.2.1 dX10_learn_6 (by decide) ?_
  refine lv_isub X.1 X.2.1 dX10_learn_7 ?_
  refine zr_callS (As := [.int q, .int 0, .int ((u 0 8) - 1)]) (rest := []) X hW hl.1 md_X10_in ms_X10_87 dX10_learn_8 rfl rfl (Nat.le_of_ble_eq_true rfl) ⟨Nat.le_of_ble_eq_true rfl, Nat.le_of_ble_eq_true rfl⟩ ⟨Nat.le_of_ble_eq_true rfl, Nat.le_of_ble_eq_true rfl⟩ (c_X10_in l Y N0 ad sh (zm_mix u g0) q 0 ((u 0 8) - 1)) (fun v9 ad9 sh9 g9 H locs hp hW => ?_)
  rcases hp with ⟨rfl, rfl, rfl, ⟨h_1, h9⟩ | ⟨h_1, h9⟩⟩
  · subst h9
    have h_1 : zi_in q 0 ((u 0 8) - 1).toInt := h_1
    refine zr_if_ne (a := 1) (tgt := 16) X dX10_learn_11 (by decide) (by decide) (fun _ => ?_) (fun c9 => absurd c9 (by decide))
    have hsl := zI_sl hI (zn q) (by rw [zi_n]; omega)
    refine lv_aload_n X.1 X.2.1 dX10_learn_16 rfl (lv_at hl 0 rfl) ?_
    refine zr_get (v := .ref (ad 4)) X hW fs_X10_16_9 dX10_learn_17 (zm_s0 hM) rfl rfl rfl ?_
    refine lv_aload_n X.1 X.2.1 dX10_learn_20 rfl (lv_at hl 0 rfl) ?_
    refine zr_get (v := .ref (ad 10)) X hW fs_X10_32_9 dX10_learn_21 (zm_s0 hM) rfl rfl rfl ?_
    refine lv_iload_n X.1 X.2.1 dX10_learn_24 rfl (lv_at hl 1 rfl) ?_
    refine zr_iald (v := u 10 (zn q)) X hW dX10_learn_25 (zm_s10 hM) rfl rfl (zi_vp (by omega)) rfl ?_
    refine zr_zald (v := u 4 (zn (u 10 (zn q)))) X hW dX10_learn_26 (zm_s4 hM) rfl rfl (zi_vp (by omega)) rfl ?_
    refine zr_if_ne (a := (u 4 (zn (u 10 (zn q)))).toInt) (tgt := 33) X dX10_learn_27 (by decide) rfl (fun c_2 => ?_) (fun c_2 => ?_)
    · refine lv_aload_n X.1 X.2.1 dX10_learn_33 rfl (lv_at hl 0 rfl) ?_
      refine zr_get (v := .ref (ad 9)) X hW fs_X10_29_9 dX10_learn_34 (zm_s0 hM) rfl rfl rfl ?_
      refine lv_iload_n X.1 X.2.1 dX10_learn_37 rfl (lv_at hl 1 rfl) ?_
      refine zr_iald (v := u 9 (zn q)) X hW dX10_learn_38 (zm_s9 hM) rfl rfl (zi_vp (by omega)) rfl ?_
      refine lv_iconst (v := 2) X.1 X.2.1 dX10_learn_39 (by decide) ?_
      refine zr_icmp_eq (a := (u 9 (zn q)).toInt) (b := 2) (tgt := 55) X dX10_learn_40 (by decide) rfl (by decide) (fun c_3 => ?_) (fun c_3 => ?_)
      · refine lv_aload_n X.1 X.2.1 dX10_learn_55 rfl (lv_at hl 0 rfl) ?_
        refine zr_get (v := .ref (ad 4)) X hW fs_X10_16_9 dX10_learn_56 (zm_s0 hM) rfl rfl rfl ?_
        refine lv_aload_n X.1 X.2.1 dX10_learn_59 rfl (lv_at hl 0 rfl) ?_
        refine zr_get (v := .ref (ad 12)) X hW fs_X10_38_9 dX10_learn_60 (zm_s0 hM) rfl rfl rfl ?_
        refine lv_iload_n X.1 X.2.1 dX10_learn_63 rfl (lv_at hl 1 rfl) ?_
        refine zr_iald (v := u 12 (zn q)) X hW dX10_learn_64 (zm_s12 hM) rfl rfl (zi_vp (by omega)) rfl ?_
        refine lv_iconst (v := 1) X.1 X.2.1 dX10_learn_65 (by decide) ?_
        refine zr_zast X hW dX10_learn_66 (zm_s4 hM) rfl rfl (zi_vp (by omega)) rfl (fun H locs hW => ?_)
        have hW : zw_St Y N0 ad sh (zm_mix (zm_w u 4 (zn (u 12 (zn q))) 1) g0) s H locs := zm_st (by decide) hW
        obtain ⟨u_4, hu_4⟩ : ∃ z : zm_T, z = zm_w u 4 (zn (u 12 (zn q))) 1 := ⟨_, rfl⟩
        rw [← hu_4] at hW
        refine lv_aload_n X.1 X.2.1 dX10_learn_67 rfl (lv_at hl 0 rfl) ?_
        refine zr_get (v := .ref (ad 12)) X hW fs_X10_38_9 dX10_learn_68 (zm_s0 hM) rfl rfl rfl ?_
        refine lv_iload_n X.1 X.2.1 dX10_learn_71 rfl (lv_at hl 1 rfl) ?_
        refine zr_iald (v := u 12 (zn q)) X hW dX10_learn_72 (zm_s12 hM) rfl rfl (zi_vp (by omega)) ((show zm_mix u_4 g0 12 (q : Int32).toNatClampNeg = u_4 12 (zn q) from rfl).trans (show u_4 12 (zn q) = u 12 (zn q) from (by rw [hu_4]; rfl))) ?_
        have e9 : sp_learn q u = (u 12 (zn q), u_4) := (by subst hu_4; unfold sp_learn; (repeat (first | refine (if_pos (by omega)).trans ?_ | refine (if_neg (by omega)).trans ?_)); first | rfl | (rw [zm_ws]))
        exact zr_iret X hW dX10_learn_73 (Nat.le_refl _) (Nat.le_refl _) ⟨rfl, rfl, by rw [e9], by rw [e9]⟩
      · refine lv_aload_n X.1 X.2.1 dX10_learn_43 rfl (lv_at hl 0 rfl) ?_
        refine zr_get (v := .ref (ad 9)) X hW fs_X10_29_9 dX10_learn_44 (zm_s0 hM) rfl rfl rfl ?_
        refine lv_iload_n X.1 X.2.1 dX10_learn_47 rfl (lv_at hl 1 rfl) ?_
        refine zr_iald (v := u 9 (zn q)) X hW dX10_learn_48 (zm_s9 hM) rfl rfl (zi_vp (by omega)) rfl ?_
        refine lv_iconst (v := 3) X.1 X.2.1 dX10_learn_49 (by decide) ?_
        refine zr_icmp_eq (a := (u 9 (zn q)).toInt) (b := 3) (tgt := 55) X dX10_learn_50 (by decide) rfl (by decide) (fun c_5 => ?_) (fun c_5 => ?_)
        · refine lv_aload_n X.1 X.2.1 dX10_learn_55 rfl (lv_at hl 0 rfl) ?_
          refine zr_get (v := .ref (ad 4)) X hW fs_X10_16_9 dX10_learn_56 (zm_s0 hM) rfl rfl rfl ?_
          refine lv_aload_n X.1 X.2.1 dX10_learn_59 rfl (lv_at hl 0 rfl) ?_
          refine zr_get (v := .ref (ad 12)) X hW fs_X10_38_9 dX10_learn_60 (zm_s0 hM) rfl rfl rfl ?_
          refine lv_iload_n X.1 X.2.1 dX10_learn_63 rfl (lv_at hl 1 rfl) ?_
          refine zr_iald (v := u 12 (zn q)) X hW dX10_learn_64 (zm_s12 hM) rfl rfl (zi_vp (by omega)) rfl ?_
          refine lv_iconst (v := 1) X.1 X.2.1 dX10_learn_65 (by decide) ?_
          refine zr_zast X hW dX10_learn_66 (zm_s4 hM) rfl rfl (zi_vp (by omega)) rfl (fun H locs hW => ?_)
          have hW : zw_St Y N0 ad sh (zm_mix (zm_w u 4 (zn (u 12 (zn q))) 1) g0) s H locs := zm_st (by decide) hW
          obtain ⟨u_6, hu_6⟩ : ∃ z : zm_T, z = zm_w u 4 (zn (u 12 (zn q))) 1 := ⟨_, rfl⟩
          rw [← hu_6] at hW
          refine lv_aload_n X.1 X.2.1 dX10_learn_67 rfl (lv_at hl 0 rfl) ?_
          refine zr_get (v := .ref (ad 12)) X hW fs_X10_38_9 dX10_learn_68 (zm_s0 hM) rfl rfl rfl ?_
          refine lv_iload_n X.1 X.2.1 dX10_learn_71 rfl (lv_at hl 1 rfl) ?_
          refine zr_iald (v := u 12 (zn q)) X hW dX10_learn_72 (zm_s12 hM) rfl rfl (zi_vp (by omega)) ((show zm_mix u_6 g0 12 (q : Int32).toNatClampNeg = u_6 12 (zn q) from rfl).trans (show u_6 12 (zn q) = u 12 (zn q) from (by rw [hu_6]; rfl))) ?_
          have e9 : sp_learn q u = (u 12 (zn q), u_6) := (by subst hu_6; unfold sp_learn; (repeat (first | refine (if_pos (by omega)).trans ?_ | refine (if_neg (by omega)).trans ?_)); first | rfl | (rw [zm_ws]))
          exact zr_iret X hW dX10_learn_73 (Nat.le_refl _) (Nat.le_refl _) ⟨rfl, rfl, by rw [e9], by rw [e9]⟩
        · refine lv_iconst (v := 0) X.1 X.2.1 dX10_learn_53 (by decide) ?_
          have e9 : sp_learn q u = (0, u) := (by unfold sp_learn; (repeat (first | refine (if_pos (by omega)).trans ?_ | refine (if_neg (by omega)).trans ?_)); first | rfl | (rw [zm_ws]))
          exact zr_iret X hW dX10_learn_54 (Nat.le_refl _) (Nat.le_refl _) ⟨rfl, rfl, by rw [e9], by rw [e9]⟩
    · refine lv_bipush (v := (-2)) X.1 X.2.1 dX10_learn_30 (by decide) ?_
      have e9 : sp_learn q u = ((-2), u) := (by unfold sp_learn; (repeat (first | refine (if_pos (by omega)).trans ?_ | refine (if_neg (by omega)).trans ?_)); first | rfl | (rw [zm_ws]))
      exact zr_iret X hW dX10_learn_32 (Nat.le_refl _) (Nat.le_refl _) ⟨rfl, rfl, by rw [e9], by rw [e9]⟩
  · subst h9
    have h_1 : ¬ (zi_in q 0 ((u 0 8) - 1).toInt) := h_1
    refine zr_if_ne (a := 0) (tgt := 16) X dX10_learn_11 (by decide) (by decide) (fun c9 => absurd c9 (by decide)) (fun _ => ?_)
    refine lv_iconst (v := (-1)) X.1 X.2.1 dX10_learn_14 (by decide) ?_
    have e9 : sp_learn q u = ((-1), u) := (by unfold sp_learn; (repeat (first | refine (if_pos (by omega)).trans ?_ | refine (if_neg (by omega)).trans ?_)); first | rfl | (rw [zm_ws]))
    exact zr_iret X hW dX10_learn_15 (Nat.le_refl _) (Nat.le_refl _) ⟨rfl, rfl, by rw [e9], by rw [e9]⟩

set_option maxHeartbeats 4000000 in
set_option maxRecDepth 100000 in
theorem c_X10_seal (l : Launch) (Y : zw_Y) (N0 : Nat) (ad : Nat → Nat) (sh : Nat → Option zw_Sh) (u g0 : zm_T) (hM : zm_S sh) (q w : Int32) (hI : zm_I u) : zw_Met l Y N0 yX10_seal cX10_seal 4 (some .int) 1 22 0 0 ad sh (zm_mix u g0) [.ref (ad 0), .int q, .int w] (zp_S ad sh g0 (sp_seal q w u)) := by
  refine zw_meth (by decide) (Nat.le_of_ble_eq_true rfl) ?_
  intro p e s m below meth c ls X hnm hl hW
  have hl : lv_has ls 4 [(0, .ref (ad 0)), (1, .int q), (2, .int w)] := hl
  have hse := zI_se hI
  have hke := zI_ke hI
  have hs1 := zi_sub (u 0 8) 1 (by rw [show (1 : Int32).toInt = 1 from rfl]; omega)
  rw [show (1 : Int32).toInt = 1 from rfl] at hs1
  refine lv_iload_n X.1 X.2.1 dX10_seal_0 rfl (lv_at hl 1 rfl) ?_
  refine lv_iconst (v := 0) X.1 X.2.1 dX10_seal_1 (by decide) ?_
  refine lv_aload_n X.1 X.2.1 dX10_seal_2 rfl (lv_at hl 0 rfl) ?_
  refine zr_get (v := .int (u 0 8)) X hW fs_X10_102_9 dX10_seal_3 (zm_s0 hM) rfl rfl rfl ?_
  refine lv_iconst (v := 1) X.1 X.2.1 dX10_seal_6 (by decide) ?_
  refine lv_isub X.1 X.2.1 dX10_seal_7 ?_
  refine zr_callS (As := [.int q, .int 0, .int ((u 0 8) - 1)]) (rest := []) X hW hl.1 md_X10_in ms_X10_87 dX10_seal_8 rfl rfl (Nat.le_of_ble_eq_true rfl) ⟨Nat.le_of_ble_eq_true rfl, Nat.le_of_ble_eq_true rfl⟩ ⟨Nat.le_of_ble_eq_true rfl, Nat.le_of_ble_eq_true rfl⟩ (c_X10_in l Y N0 ad sh (zm_mix u g0) q 0 ((u 0 8) - 1)) (fun v9 ad9 sh9 g9 H locs hp hW => ?_)
  rcases hp with ⟨rfl, rfl, rfl, ⟨h_1, h9⟩ | ⟨h_1, h9⟩⟩
  · subst h9
    have h_1 : zi_in q 0 ((u 0 8) - 1).toInt := h_1
    refine zr_if_eq (a := 1) (tgt := 23) X dX10_seal_11 (by decide) (by decide) (fun c9 => absurd c9 (by decide)) (fun _ => ?_)
    refine lv_iload_n X.1 X.2.1 dX10_seal_14 rfl (lv_at hl 2 rfl) ?_
    refine lv_iconst (v := 0) X.1 X.2.1 dX10_seal_15 (by decide) ?_
    refine lv_iconst (v := 2) X.1 X.2.1 dX10_seal_16 (by decide) ?_
    refine zr_callS (As := [.int w, .int 0, .int 2]) (rest := []) X hW hl.1 md_X10_in ms_X10_87 dX10_seal_17 rfl rfl (Nat.le_of_ble_eq_true rfl) ⟨Nat.le_of_ble_eq_true rfl, Nat.le_of_ble_eq_true rfl⟩ ⟨Nat.le_of_ble_eq_true rfl, Nat.le_of_ble_eq_true rfl⟩ (c_X10_in l Y N0 ad sh (zm_mix u g0) w 0 2) (fun v9 ad9 sh9 g9 H locs hp hW => ?_)
    rcases hp with ⟨rfl, rfl, rfl, ⟨h_2, h9⟩ | ⟨h_2, h9⟩⟩
    · subst h9
      have h_2 : zi_in w 0 2 := h_2
      refine zr_if_ne (a := 1) (tgt := 25) X dX10_seal_20 (by decide) (by decide) (fun _ => ?_) (fun c9 => absurd c9 (by decide))
      refine lv_aload_n X.1 X.2.1 dX10_seal_25 rfl (lv_at hl 0 rfl) ?_
      refine zr_get (v := .ref (ad 9)) X hW fs_X10_29_9 dX10_seal_26 (zm_s0 hM) rfl rfl rfl ?_
      refine lv_iload_n X.1 X.2.1 dX10_seal_29 rfl (lv_at hl 1 rfl) ?_
      refine zr_iald (v := u 9 (zn q)) X hW dX10_seal_30 (zm_s9 hM) rfl rfl (zi_vp (by omega)) rfl ?_
      refine lv_istore_n (lv' := [(3, .int (u 9 (zn q))), (0, .ref (ad 0)), (1, .int q), (2, .int w)]) X.1 X.2.1 dX10_seal_31 rfl hl (by decide) rfl (fun ls hl => ?_)
      refine lv_iload_n X.1 X.2.1 dX10_seal_32 rfl (lv_at hl 3 rfl) ?_
      refine zr_if_ne (a := (w).toInt) (tgt := 38) X dX10_seal_33 (by decide) rfl (fun c_3 => ?_) (fun c_3 => ?_)
      · refine lv_iload_n X.1 X.2.1 dX10_seal_38 rfl (lv_at hl 3 rfl) ?_
        refine lv_iconst (v := 1) X.1 X.2.1 dX10_seal_39 (by decide) ?_
        refine zr_icmp_ne (a := (w).toInt) (b := 1) (tgt := 73) X dX10_seal_40 (by decide) rfl (by decide) (fun c_4 => ?_) (fun c_4 => ?_)
        · refine lv_iload_n X.1 X.2.1 dX10_seal_73 rfl (lv_at hl 0 rfl) ?_
          refine lv_iconst (v := 1) X.1 X.2.1 dX10_seal_74 (by decide) ?_
          refine zr_icmp_eq (a := (u 9 (zn q)).toInt) (b := 1) (tgt := 83) X dX10_seal_75 (by decide) rfl (by decide) (fun c_5 => ?_) (fun c_5 => ?_)
          · refine lv_aload_n X.1 X.2.1 dX10_seal_83 rfl (lv_at hl 1 rfl) ?_
            refine zr_get (v := .ref (ad 13)) X hW fs_X10_41_9 dX10_seal_84 (zm_s0 hM) rfl rfl rfl ?_
            refine lv_iload_n X.1 X.2.1 dX10_seal_87 rfl (lv_at hl 2 rfl) ?_
            refine zr_iald (v := u 13 (zn q)) X hW dX10_seal_88 (zm_s13 hM) rfl rfl (zi_vp (by omega)) rfl ?_
            refine lv_goto (tgt := 93) X.1 X.2.1 dX10_seal_89 (by decide) ?_
            have e9 : sp_seal q w u = (u 13 (zn q), u) := (by unfold sp_seal; (repeat (first | refine (if_pos (by omega)).trans ?_ | refine (if_neg (by omega)).trans ?_)); first | rfl | (refine Prod.ext ?_ rfl; (repeat (first | refine (if_pos (by omega)).trans ?_ | refine (if_neg (by omega)).trans ?_)); rfl))
            exact zr_iret X hW dX10_seal_93 (Nat.le_refl _) (Nat.le_refl _) ⟨rfl, rfl, by rw [e9], by rw [e9]⟩
          · refine lv_iload_n X.1 X.2.1 dX10_seal_78 rfl (lv_at hl 0 rfl) ?_
            refine lv_iconst (v := 4) X.1 X.2.1 dX10_seal_79 (by decide) ?_
            refine zr_icmp_ne (a := (u 9 (zn q)).toInt) (b := 4) (tgt := 92) X dX10_seal_80 (by decide) rfl (by decide) (fun c_6 => ?_) (fun c_6 => ?_)
            · refine lv_iconst (v := 0) X.1 X.2.1 dX10_seal_92 (by decide) ?_
              have e9 : sp_seal q w u = (0, u) := (by unfold sp_seal; (repeat (first | refine (if_pos (by omega)).trans ?_ | refine (if_neg (by omega)).trans ?_)); first | rfl | (refine Prod.ext ?_ rfl; (repeat (first | refine (if_pos (by omega)).trans ?_ | refine (if_neg (by omega)).trans ?_)); rfl))
              exact zr_iret X hW dX10_seal_93 (Nat.le_refl _) (Nat.le_refl _) ⟨rfl, rfl, by rw [e9], by rw [e9]⟩
            · refine lv_aload_n X.1 X.2.1 dX10_seal_83 rfl (lv_at hl 1 rfl) ?_
              refine zr_get (v := .ref (ad 13)) X hW fs_X10_41_9 dX10_seal_84 (zm_s0 hM) rfl rfl rfl ?_
              refine lv_iload_n X.1 X.2.1 dX10_seal_87 rfl (lv_at hl 2 rfl) ?_
              refine zr_iald (v := u 13 (zn q)) X hW dX10_seal_88 (zm_s13 hM) rfl rfl (zi_vp (by omega)) rfl ?_
              refine lv_goto (tgt := 93) X.1 X.2.1 dX10_seal_89 (by decide) ?_
              have e9 : sp_seal q w u = (u 13 (zn q), u) := (by unfold sp_seal; (repeat (first | refine (if_pos (by omega)).trans ?_ | refine (if_neg (by omega)).trans ?_)); first | rfl | (refine Prod.ext ?_ rfl; (repeat (first | refine (if_pos (by omega)).trans ?_ | refine (if_neg (by omega)).trans ?_)); rfl))
              exact zr_iret X hW dX10_seal_93 (Nat.le_refl _) (Nat.le_refl _) ⟨rfl, rfl, by rw [e9], by rw [e9]⟩
        · refine lv_iload_n X.1 X.2.1 dX10_seal_43 rfl (lv_at hl 0 rfl) ?_
          refine lv_iconst (v := 2) X.1 X.2.1 dX10_seal_44 (by decide) ?_
          refine zr_icmp_ne (a := (u 9 (zn q)).toInt) (b := 2) (tgt := 57) X dX10_seal_45 (by decide) rfl (by decide) (fun c_7 => ?_) (fun c_7 => ?_)
          · refine lv_iload_n X.1 X.2.1 dX10_seal_57 rfl (lv_at hl 0 rfl) ?_
            refine lv_iconst (v := 3) X.1 X.2.1 dX10_seal_58 (by decide) ?_
            refine zr_icmp_ne (a := (u 9 (zn q)).toInt) (b := 3) (tgt := 71) X dX10_seal_59 (by decide) rfl (by decide) (fun c_8 => ?_) (fun c_8 => ?_)
            · refine lv_iconst (v := 0) X.1 X.2.1 dX10_seal_71 (by decide) ?_
              have e9 : sp_seal q w u = (0, u) := (by unfold sp_seal; (repeat (first | refine (if_pos (by omega)).trans ?_ | refine (if_neg (by omega)).trans ?_)); first | rfl | (refine Prod.ext ?_ rfl; (repeat (first | refine (if_pos (by omega)).trans ?_ | refine (if_neg (by omega)).trans ?_)); rfl))
              exact zr_iret X hW dX10_seal_72 (Nat.le_refl _) (Nat.le_refl _) ⟨rfl, rfl, by rw [e9], by rw [e9]⟩
            · refine lv_aload_n X.1 X.2.1 dX10_seal_62 rfl (lv_at hl 1 rfl) ?_
              refine zr_get (v := .ref (ad 15)) X hW fs_X10_47_9 dX10_seal_63 (zm_s0 hM) rfl rfl rfl ?_
              refine lv_iload_n X.1 X.2.1 dX10_seal_66 rfl (lv_at hl 2 rfl) ?_
              refine zr_iald (v := u 15 (zn q)) X hW dX10_seal_67 (zm_s15 hM) rfl rfl (zi_vp (by omega)) rfl ?_
              refine lv_goto (tgt := 72) X.1 X.2.1 dX10_seal_68 (by decide) ?_
              have e9 : sp_seal q w u = (u 15 (zn q), u) := (by unfold sp_seal; (repeat (first | refine (if_pos (by omega)).trans ?_ | refine (if_neg (by omega)).trans ?_)); first | rfl | (refine Prod.ext ?_ rfl; (repeat (first | refine (if_pos (by omega)).trans ?_ | refine (if_neg (by omega)).trans ?_)); rfl))
              exact zr_iret X hW dX10_seal_72 (Nat.le_refl _) (Nat.le_refl _) ⟨rfl, rfl, by rw [e9], by rw [e9]⟩
          · refine lv_aload_n X.1 X.2.1 dX10_seal_48 rfl (lv_at hl 1 rfl) ?_
            refine zr_get (v := .ref (ad 14)) X hW fs_X10_44_9 dX10_seal_49 (zm_s0 hM) rfl rfl rfl ?_
            refine lv_iload_n X.1 X.2.1 dX10_seal_52 rfl (lv_at hl 2 rfl) ?_
            refine zr_iald (v := u 14 (zn q)) X hW dX10_seal_53 (zm_s14 hM) rfl rfl (zi_vp (by omega)) rfl ?_
            refine lv_goto (tgt := 72) X.1 X.2.1 dX10_seal_54 (by decide) ?_
            have e9 : sp_seal q w u = (u 14 (zn q), u) := (by unfold sp_seal; (repeat (first | refine (if_pos (by omega)).trans ?_ | refine (if_neg (by omega)).trans ?_)); first | rfl | (refine Prod.ext ?_ rfl; (repeat (first | refine (if_pos (by omega)).trans ?_ | refine (if_neg (by omega)).trans ?_)); rfl))
            exact zr_iret X hW dX10_seal_72 (Nat.le_refl _) (Nat.le_refl _) ⟨rfl, rfl, by rw [e9], by rw [e9]⟩
      · refine lv_iload_n X.1 X.2.1 dX10_seal_36 rfl (lv_at hl 0 rfl) ?_
        have e9 : sp_seal q w u = (u 9 (zn q), u) := (by unfold sp_seal; (repeat (first | refine (if_pos (by omega)).trans ?_ | refine (if_neg (by omega)).trans ?_)); first | rfl | (refine Prod.ext ?_ rfl; (repeat (first | refine (if_pos (by omega)).trans ?_ | refine (if_neg (by omega)).trans ?_)); rfl))
        exact zr_iret X hW dX10_seal_37 (Nat.le_refl _) (Nat.le_refl _) ⟨rfl, rfl, by rw [e9], by rw [e9]⟩
    · subst h9
      have h_2 : ¬ (zi_in w 0 2) := h_2
      refine zr_if_ne (a := 0) (tgt := 25) X dX10_seal_20 (by decide) (by decide) (fun c9 => absurd c9 (by decide)) (fun _ => ?_)
      refine lv_iconst (v := (-1)) X.1 X.2.1 dX10_seal_23 (by decide) ?_
      have e9 : sp_seal q w u = ((-1), u) := (by unfold sp_seal; (repeat (first | refine (if_pos (by omega)).trans ?_ | refine (if_neg (by omega)).trans ?_)); first | rfl | (refine Prod.ext ?_ rfl; (repeat (first | refine (if_pos (by omega)).trans ?_ | refine (if_neg (by omega)).trans ?_)); rfl))
      exact zr_iret X hW dX10_seal_24 (Nat.le_refl _) (Nat.le_refl _) ⟨rfl, rfl, by rw [e9], by rw [e9]⟩
  · subst h9
    have h_1 : ¬ (zi_in q 0 ((u 0 8) - 1).toInt) := h_1
    refine zr_if_eq (a := 0) (tgt := 23) X dX10_seal_11 (by decide) (by decide) (fun _ => ?_) (fun c9 => absurd c9 (by decide))
    refine lv_iconst (v := (-1)) X.1 X.2.1 dX10_seal_23 (by decide) ?_
    have e9 : sp_seal q w u = ((-1), u) := (by unfold sp_seal; (repeat (first | refine (if_pos (by omega)).trans ?_ | refine (if_neg (by omega)).trans ?_)); first | rfl | (refine Prod.ext ?_ rfl; (repeat (first | refine (if_pos (by omega)).trans ?_ | refine (if_neg (by omega)).trans ?_)); rfl))
    exact zr_iret X hW dX10_seal_24 (Nat.le_refl _) (Nat.le_refl _) ⟨rfl, rfl, by rw [e9], by rw [e9]⟩

set_option maxHeartbeats 4000000 in
set_option maxRecDepth 100000 in
theorem c_X10_look (l : Launch) (Y : zw_Y) (N0 : Nat) (ad : Nat → Nat) (sh : Nat → Option zw_Sh) (u g0 : zm_T) (hM : zm_S sh) (w i : Int32) (hI : zm_I u) : zw_Met l Y N0 yX10_look cX10_look 3 (some .int) 2 43 0 0 ad sh (zm_mix u g0) [.ref (ad 0), .int w, .int i] (zp_S ad sh g0 (sp_look w i u)) := by
  refine zw_meth (by decide) (Nat.le_of_ble_eq_true rfl) ?_
  intro p e s m below meth c ls X hnm hl hW
  have hl : lv_has ls 3 [(0, .ref (ad 0)), (1, .int w), (2, .int i)] := hl
  refine lv_iload_n X.1 X.2.1 dX10_look_0 rfl (lv_at hl 1 rfl) ?_
  by_cases c_1 : (w).toInt < 0 ∨ 7 < (w).toInt
  · refine lv_tableOut (tgt := 166) X.1 X.2.1 dX10_look_1 c_1 (by decide) ?_
    refine lv_iconst (v := (-1)) X.1 X.2.1 dX10_look_166 (by decide) ?_
    have e9 : sp_look w i u = ((-1), u) := (by unfold sp_look; (repeat (first | refine (if_pos (by omega)).trans ?_ | refine (if_neg (by omega)).trans ?_)); first | rfl | (refine Prod.ext ?_ rfl; (repeat (first | refine (if_pos (by omega)).trans ?_ | refine (if_neg (by omega)).trans ?_)); rfl))
    exact zr_iret X hW dX10_look_167 (Nat.le_refl _) (Nat.le_refl _) ⟨rfl, rfl, by rw [e9], by rw [e9]⟩
  · obtain c_1 | c_1 | c_1 | c_1 | c_1 | c_1 | c_1 | c_1 : (w).toInt = 0 ∨ (w).toInt = 1 ∨ (w).toInt = 2 ∨ (w).toInt = 3 ∨ (w).toInt = 4 ∨ (w).toInt = 5 ∨ (w).toInt = 6 ∨ (w).toInt = 7 := by omega
    · refine lv_tableIn (off := 47) (tgt := 48) X.1 X.2.1 dX10_look_1 (by omega) (by omega) (by rw [c_1]; rfl) (by decide) ?_
      refine lv_iload_n X.1 X.2.1 dX10_look_48 rfl (lv_at hl 2 rfl) ?_
      refine lv_iconst (v := 0) X.1 X.2.1 dX10_look_49 (by decide) ?_
      refine lv_iconst (v := 2) X.1 X.2.1 dX10_look_50 (by decide) ?_
      refine zr_callS (As := [.int i, .int 0, .int 2]) (rest := []) X hW hl.1 md_X10_in ms_X10_87 dX10_look_51 rfl rfl (Nat.le_of_ble_eq_true rfl) ⟨Nat.le_of_ble_eq_true rfl, Nat.le_of_ble_eq_true rfl⟩ ⟨Nat.le_of_ble_eq_true rfl, Nat.le_of_ble_eq_true rfl⟩ (c_X10_in l Y N0 ad sh (zm_mix u g0) i 0 2) (fun v9 ad9 sh9 g9 H locs hp hW => ?_)
      rcases hp with ⟨rfl, rfl, rfl, ⟨h_2, h9⟩ | ⟨h_2, h9⟩⟩
      · subst h9
        have h_2 : zi_in i 0 2 := h_2
        refine zr_if_eq (a := 1) (tgt := 66) X dX10_look_54 (by decide) (by decide) (fun c9 => absurd c9 (by decide)) (fun _ => ?_)
        refine lv_aload_n X.1 X.2.1 dX10_look_57 rfl (lv_at hl 0 rfl) ?_
        refine zr_get (v := .ref (ad 26)) X hW fs_X10_77_9 dX10_look_58 (zm_s0 hM) rfl rfl rfl ?_
        refine lv_iload_n X.1 X.2.1 dX10_look_61 rfl (lv_at hl 2 rfl) ?_
        refine zr_iald (v := u 26 (zn i)) X hW dX10_look_62 (zm_s26 hM) rfl rfl (zi_vp (by omega)) rfl ?_
        refine lv_goto (tgt := 67) X.1 X.2.1 dX10_look_63 (by decide) ?_
        have e9 : sp_look w i u = (u 26 (zn i), u) := (by unfold sp_look; (repeat (first | refine (if_pos (by omega)).trans ?_ | refine (if_neg (by omega)).trans ?_)); first | rfl | (refine Prod.ext ?_ rfl; (repeat (first | refine (if_pos (by omega)).trans ?_ | refine (if_neg (by omega)).trans ?_)); rfl))
        exact zr_iret X hW dX10_look_67 (Nat.le_refl _) (Nat.le_refl _) ⟨rfl, rfl, by rw [e9], by rw [e9]⟩
      · subst h9
        have h_2 : ¬ (zi_in i 0 2) := h_2
        refine zr_if_eq (a := 0) (tgt := 66) X dX10_look_54 (by decide) (by decide) (fun _ => ?_) (fun c9 => absurd c9 (by decide))
        refine lv_iconst (v := (-1)) X.1 X.2.1 dX10_look_66 (by decide) ?_
        have e9 : sp_look w i u = ((-1), u) := (by unfold sp_look; (repeat (first | refine (if_pos (by omega)).trans ?_ | refine (if_neg (by omega)).trans ?_)); first | rfl | (refine Prod.ext ?_ rfl; (repeat (first | refine (if_pos (by omega)).trans ?_ | refine (if_neg (by omega)).trans ?_)); rfl))
        exact zr_iret X hW dX10_look_67 (Nat.le_refl _) (Nat.le_refl _) ⟨rfl, rfl, by rw [e9], by rw [e9]⟩
    · refine lv_tableIn (off := 67) (tgt := 68) X.1 X.2.1 dX10_look_1 (by omega) (by omega) (by rw [c_1]; rfl) (by decide) ?_
      refine lv_iload_n X.1 X.2.1 dX10_look_68 rfl (lv_at hl 2 rfl) ?_
      refine lv_iconst (v := 0) X.1 X.2.1 dX10_look_69 (by decide) ?_
      refine lv_iconst (v := 5) X.1 X.2.1 dX10_look_70 (by decide) ?_
      refine zr_callS (As := [.int i, .int 0, .int 5]) (rest := []) X hW hl.1 md_X10_in ms_X10_87 dX10_look_71 rfl rfl (Nat.le_of_ble_eq_true rfl) ⟨Nat.le_of_ble_eq_true rfl, Nat.le_of_ble_eq_true rfl⟩ ⟨Nat.le_of_ble_eq_true rfl, Nat.le_of_ble_eq_true rfl⟩ (c_X10_in l Y N0 ad sh (zm_mix u g0) i 0 5) (fun v9 ad9 sh9 g9 H locs hp hW => ?_)
      rcases hp with ⟨rfl, rfl, rfl, ⟨h_3, h9⟩ | ⟨h_3, h9⟩⟩
      · subst h9
        have h_3 : zi_in i 0 5 := h_3
        refine zr_if_eq (a := 1) (tgt := 86) X dX10_look_74 (by decide) (by decide) (fun c9 => absurd c9 (by decide)) (fun _ => ?_)
        refine lv_aload_n X.1 X.2.1 dX10_look_77 rfl (lv_at hl 0 rfl) ?_
        refine zr_get (v := .ref (ad 1)) X hW fs_X10_7_9 dX10_look_78 (zm_s0 hM) rfl rfl rfl ?_
        refine lv_iload_n X.1 X.2.1 dX10_look_81 rfl (lv_at hl 2 rfl) ?_
        refine zr_iald (v := u 1 (zn i)) X hW dX10_look_82 (zm_s1 hM) rfl rfl (zi_vp (by omega)) rfl ?_
        refine lv_goto (tgt := 87) X.1 X.2.1 dX10_look_83 (by decide) ?_
        have e9 : sp_look w i u = (u 1 (zn i), u) := (by unfold sp_look; (repeat (first | refine (if_pos (by omega)).trans ?_ | refine (if_neg (by omega)).trans ?_)); first | rfl | (refine Prod.ext ?_ rfl; (repeat (first | refine (if_pos (by omega)).trans ?_ | refine (if_neg (by omega)).trans ?_)); rfl))
        exact zr_iret X hW dX10_look_87 (Nat.le_refl _) (Nat.le_refl _) ⟨rfl, rfl, by rw [e9], by rw [e9]⟩
      · subst h9
        have h_3 : ¬ (zi_in i 0 5) := h_3
        refine zr_if_eq (a := 0) (tgt := 86) X dX10_look_74 (by decide) (by decide) (fun _ => ?_) (fun c9 => absurd c9 (by decide))
        refine lv_iconst (v := (-1)) X.1 X.2.1 dX10_look_86 (by decide) ?_
        have e9 : sp_look w i u = ((-1), u) := (by unfold sp_look; (repeat (first | refine (if_pos (by omega)).trans ?_ | refine (if_neg (by omega)).trans ?_)); first | rfl | (refine Prod.ext ?_ rfl; (repeat (first | refine (if_pos (by omega)).trans ?_ | refine (if_neg (by omega)).trans ?_)); rfl))
        exact zr_iret X hW dX10_look_87 (Nat.le_refl _) (Nat.le_refl _) ⟨rfl, rfl, by rw [e9], by rw [e9]⟩
    · refine lv_tableIn (off := 87) (tgt := 88) X.1 X.2.1 dX10_look_1 (by omega) (by omega) (by rw [c_1]; rfl) (by decide) ?_
      refine lv_aload_n X.1 X.2.1 dX10_look_88 rfl (lv_at hl 0 rfl) ?_
      refine zr_get (v := .int (u 0 28)) X hW fs_X10_147_9 dX10_look_89 (zm_s0 hM) rfl rfl rfl ?_
      have e9 : sp_look w i u = (u 0 28, u) := (by unfold sp_look; (repeat (first | refine (if_pos (by omega)).trans ?_ | refine (if_neg (by omega)).trans ?_)); first | rfl | (refine Prod.ext ?_ rfl; (repeat (first | refine (if_pos (by omega)).trans ?_ | refine (if_neg (by omega)).trans ?_)); rfl))
      exact zr_iret X hW dX10_look_92 (Nat.le_refl _) (Nat.le_refl _) ⟨rfl, rfl, by rw [e9], by rw [e9]⟩
    · refine lv_tableIn (off := 92) (tgt := 93) X.1 X.2.1 dX10_look_1 (by omega) (by omega) (by rw [c_1]; rfl) (by decide) ?_
      refine lv_aload_n X.1 X.2.1 dX10_look_93 rfl (lv_at hl 0 rfl) ?_
      refine lv_iload_n X.1 X.2.1 dX10_look_94 rfl (lv_at hl 2 rfl) ?_
      refine zr_callV (As := [.int i]) (rest := []) X hW hl.1 md_X10_user ms_X10_112 dX10_look_95 (zm_s0 hM) rfl rfl rfl rfl (Nat.le_of_ble_eq_true rfl) ⟨Nat.le_of_ble_eq_true rfl, Nat.le_of_ble_eq_true rfl⟩ ⟨Nat.le_of_ble_eq_true rfl, Nat.le_of_ble_eq_true rfl⟩ (c_X10_user l Y N0 ad sh u g0 hM i) (fun v9 ad9 sh9 g9 H locs hp hW => ?_)
      rcases hp with ⟨rfl, rfl, rfl, ⟨h_4, h9⟩ | ⟨h_4, h9⟩⟩
      · subst h9
        have h_4 : zs_us i := h_4
        refine zr_if_eq (a := 1) (tgt := 110) X dX10_look_98 (by decide) (by decide) (fun c9 => absurd c9 (by decide)) (fun _ => ?_)
        refine lv_aload_n X.1 X.2.1 dX10_look_101 rfl (lv_at hl 0 rfl) ?_
        refine zr_get (v := .ref (ad 20)) X hW fs_X10_59_9 dX10_look_102 (zm_s0 hM) rfl rfl rfl ?_
        refine lv_iload_n X.1 X.2.1 dX10_look_105 rfl (lv_at hl 2 rfl) ?_
        refine zr_iald (v := u 20 (zn i)) X hW dX10_look_106 (zm_s20 hM) rfl rfl (zi_vp (by omega)) rfl ?_
        refine lv_goto (tgt := 111) X.1 X.2.1 dX10_look_107 (by decide) ?_
        have e9 : sp_look w i u = (u 20 (zn i), u) := (by unfold sp_look; (repeat (first | refine (if_pos (by omega)).trans ?_ | refine (if_neg (by omega)).trans ?_)); first | rfl | (refine Prod.ext ?_ rfl; (repeat (first | refine (if_pos (by omega)).trans ?_ | refine (if_neg (by omega)).trans ?_)); rfl))
        exact zr_iret X hW dX10_look_111 (Nat.le_refl _) (Nat.le_refl _) ⟨rfl, rfl, by rw [e9], by rw [e9]⟩
      · subst h9
        have h_4 : ¬ (zs_us i) := h_4
        refine zr_if_eq (a := 0) (tgt := 110) X dX10_look_98 (by decide) (by decide) (fun _ => ?_) (fun c9 => absurd c9 (by decide))
        refine lv_iconst (v := (-1)) X.1 X.2.1 dX10_look_110 (by decide) ?_
        have e9 : sp_look w i u = ((-1), u) := (by unfold sp_look; (repeat (first | refine (if_pos (by omega)).trans ?_ | refine (if_neg (by omega)).trans ?_)); first | rfl | (refine Prod.ext ?_ rfl; (repeat (first | refine (if_pos (by omega)).trans ?_ | refine (if_neg (by omega)).trans ?_)); rfl))
        exact zr_iret X hW dX10_look_111 (Nat.le_refl _) (Nat.le_refl _) ⟨rfl, rfl, by rw [e9], by rw [e9]⟩
    · refine lv_tableIn (off := 111) (tgt := 112) X.1 X.2.1 dX10_look_1 (by omega) (by omega) (by rw [c_1]; rfl) (by decide) ?_
      refine lv_aload_n X.1 X.2.1 dX10_look_112 rfl (lv_at hl 0 rfl) ?_
      refine lv_iload_n X.1 X.2.1 dX10_look_113 rfl (lv_at hl 2 rfl) ?_
      refine zr_callV (As := [.int i]) (rest := []) X hW hl.1 md_X10_user ms_X10_112 dX10_look_114 (zm_s0 hM) rfl rfl rfl rfl (Nat.le_of_ble_eq_true rfl) ⟨Nat.le_of_ble_eq_true rfl, Nat.le_of_ble_eq_true rfl⟩ ⟨Nat.le_of_ble_eq_true rfl, Nat.le_of_ble_eq_true rfl⟩ (c_X10_user l Y N0 ad sh u g0 hM i) (fun v9 ad9 sh9 g9 H locs hp hW => ?_)
      rcases hp with ⟨rfl, rfl, rfl, ⟨h_5, h9⟩ | ⟨h_5, h9⟩⟩
      · subst h9
        have h_5 : zs_us i := h_5
        refine zr_if_eq (a := 1) (tgt := 131) X dX10_look_117 (by decide) (by decide) (fun c9 => absurd c9 (by decide)) (fun _ => ?_)
        refine lv_aload_n X.1 X.2.1 dX10_look_120 rfl (lv_at hl 0 rfl) ?_
        refine zr_get (v := .ref (ad 23)) X hW fs_X10_68_9 dX10_look_121 (zm_s0 hM) rfl rfl rfl ?_
        refine lv_iconst (v := 2) X.1 X.2.1 dX10_look_124 (by decide) ?_
        refine lv_iload_n X.1 X.2.1 dX10_look_125 rfl (lv_at hl 2 rfl) ?_
        refine lv_imul X.1 X.2.1 dX10_look_126 ?_
        have hx_6 := zi_ix2 i (by omega)
        obtain ⟨hx_6, hx_6n⟩ := hx_6
        refine zr_iald (v := u 23 (2 * zn i)) X hW dX10_look_127 (zm_s23 hM) rfl rfl (zi_vp (by omega)) (by rw [hx_6n]; rfl) ?_
        refine lv_goto (tgt := 132) X.1 X.2.1 dX10_look_128 (by decide) ?_
        have e9 : sp_look w i u = (u 23 (2 * zn i), u) := (by unfold sp_look; (repeat (first | refine (if_pos (by omega)).trans ?_ | refine (if_neg (by omega)).trans ?_)); first | rfl | (refine Prod.ext ?_ rfl; (repeat (first | refine (if_pos (by omega)).trans ?_ | refine (if_neg (by omega)).trans ?_)); rfl))
        exact zr_iret X hW dX10_look_132 (Nat.le_refl _) (Nat.le_refl _) ⟨rfl, rfl, by rw [e9], by rw [e9]⟩
      · subst h9
        have h_5 : ¬ (zs_us i) := h_5
        refine zr_if_eq (a := 0) (tgt := 131) X dX10_look_117 (by decide) (by decide) (fun _ => ?_) (fun c9 => absurd c9 (by decide))
        refine lv_iconst (v := (-1)) X.1 X.2.1 dX10_look_131 (by decide) ?_
        have e9 : sp_look w i u = ((-1), u) := (by unfold sp_look; (repeat (first | refine (if_pos (by omega)).trans ?_ | refine (if_neg (by omega)).trans ?_)); first | rfl | (refine Prod.ext ?_ rfl; (repeat (first | refine (if_pos (by omega)).trans ?_ | refine (if_neg (by omega)).trans ?_)); rfl))
        exact zr_iret X hW dX10_look_132 (Nat.le_refl _) (Nat.le_refl _) ⟨rfl, rfl, by rw [e9], by rw [e9]⟩
    · refine lv_tableIn (off := 132) (tgt := 133) X.1 X.2.1 dX10_look_1 (by omega) (by omega) (by rw [c_1]; rfl) (by decide) ?_
      refine lv_aload_n X.1 X.2.1 dX10_look_133 rfl (lv_at hl 0 rfl) ?_
      refine lv_iload_n X.1 X.2.1 dX10_look_134 rfl (lv_at hl 2 rfl) ?_
      refine zr_callV (As := [.int i]) (rest := []) X hW hl.1 md_X10_user ms_X10_112 dX10_look_135 (zm_s0 hM) rfl rfl rfl rfl (Nat.le_of_ble_eq_true rfl) ⟨Nat.le_of_ble_eq_true rfl, Nat.le_of_ble_eq_true rfl⟩ ⟨Nat.le_of_ble_eq_true rfl, Nat.le_of_ble_eq_true rfl⟩ (c_X10_user l Y N0 ad sh u g0 hM i) (fun v9 ad9 sh9 g9 H locs hp hW => ?_)
      rcases hp with ⟨rfl, rfl, rfl, ⟨h_7, h9⟩ | ⟨h_7, h9⟩⟩
      · subst h9
        have h_7 : zs_us i := h_7
        refine zr_if_eq (a := 1) (tgt := 154) X dX10_look_138 (by decide) (by decide) (fun c9 => absurd c9 (by decide)) (fun _ => ?_)
        refine lv_aload_n X.1 X.2.1 dX10_look_141 rfl (lv_at hl 0 rfl) ?_
        refine zr_get (v := .ref (ad 23)) X hW fs_X10_68_9 dX10_look_142 (zm_s0 hM) rfl rfl rfl ?_
        refine lv_iconst (v := 2) X.1 X.2.1 dX10_look_145 (by decide) ?_
        refine lv_iload_n X.1 X.2.1 dX10_look_146 rfl (lv_at hl 2 rfl) ?_
        refine lv_imul X.1 X.2.1 dX10_look_147 ?_
        refine lv_iconst (v := 1) X.1 X.2.1 dX10_look_148 (by decide) ?_
        refine lv_iadd X.1 X.2.1 dX10_look_149 ?_
        have hx_8 := zi_ix21 i (by omega)
        obtain ⟨hx_8, hx_8n⟩ := hx_8
        refine zr_iald (v := u 23 (2 * zn i + 1)) X hW dX10_look_150 (zm_s23 hM) rfl rfl (zi_vp (by omega)) (by rw [hx_8n]; rfl) ?_
        refine lv_goto (tgt := 155) X.1 X.2.1 dX10_look_151 (by decide) ?_
        have e9 : sp_look w i u = (u 23 (2 * zn i + 1), u) := (by unfold sp_look; (repeat (first | refine (if_pos (by omega)).trans ?_ | refine (if_neg (by omega)).trans ?_)); first | rfl | (refine Prod.ext ?_ rfl; (repeat (first | refine (if_pos (by omega)).trans ?_ | refine (if_neg (by omega)).trans ?_)); rfl))
        exact zr_iret X hW dX10_look_155 (Nat.le_refl _) (Nat.le_refl _) ⟨rfl, rfl, by rw [e9], by rw [e9]⟩
      · subst h9
        have h_7 : ¬ (zs_us i) := h_7
        refine zr_if_eq (a := 0) (tgt := 154) X dX10_look_138 (by decide) (by decide) (fun _ => ?_) (fun c9 => absurd c9 (by decide))
        refine lv_iconst (v := (-1)) X.1 X.2.1 dX10_look_154 (by decide) ?_
        have e9 : sp_look w i u = ((-1), u) := (by unfold sp_look; (repeat (first | refine (if_pos (by omega)).trans ?_ | refine (if_neg (by omega)).trans ?_)); first | rfl | (refine Prod.ext ?_ rfl; (repeat (first | refine (if_pos (by omega)).trans ?_ | refine (if_neg (by omega)).trans ?_)); rfl))
        exact zr_iret X hW dX10_look_155 (Nat.le_refl _) (Nat.le_refl _) ⟨rfl, rfl, by rw [e9], by rw [e9]⟩
    · refine lv_tableIn (off := 155) (tgt := 156) X.1 X.2.1 dX10_look_1 (by omega) (by omega) (by rw [c_1]; rfl) (by decide) ?_
      refine lv_aload_n X.1 X.2.1 dX10_look_156 rfl (lv_at hl 0 rfl) ?_
      refine zr_get (v := .int (u 0 8)) X hW fs_X10_102_9 dX10_look_157 (zm_s0 hM) rfl rfl rfl ?_
      have e9 : sp_look w i u = (u 0 8, u) := (by unfold sp_look; (repeat (first | refine (if_pos (by omega)).trans ?_ | refine (if_neg (by omega)).trans ?_)); first | rfl | (refine Prod.ext ?_ rfl; (repeat (first | refine (if_pos (by omega)).trans ?_ | refine (if_neg (by omega)).trans ?_)); rfl))
      exact zr_iret X hW dX10_look_160 (Nat.le_refl _) (Nat.le_refl _) ⟨rfl, rfl, by rw [e9], by rw [e9]⟩
    · refine lv_tableIn (off := 160) (tgt := 161) X.1 X.2.1 dX10_look_1 (by omega) (by omega) (by rw [c_1]; rfl) (by decide) ?_
      refine lv_aload_n X.1 X.2.1 dX10_look_161 rfl (lv_at hl 0 rfl) ?_
      refine zr_get (v := .int (u 0 2)) X hW fs_X10_91_9 dX10_look_162 (zm_s0 hM) rfl rfl rfl ?_
      have e9 : sp_look w i u = (u 0 2, u) := (by unfold sp_look; (repeat (first | refine (if_pos (by omega)).trans ?_ | refine (if_neg (by omega)).trans ?_)); first | rfl | (refine Prod.ext ?_ rfl; (repeat (first | refine (if_pos (by omega)).trans ?_ | refine (if_neg (by omega)).trans ?_)); rfl))
      exact zr_iret X hW dX10_look_165 (Nat.le_refl _) (Nat.le_refl _) ⟨rfl, rfl, by rw [e9], by rw [e9]⟩

theorem zs_w13 (a b c d e f g h i j x : Int32) : va_up (zs_v a b c d e f g h i j) 13 x = zs_v a b c d x f g h i j := by
  funext r
  by_cases hr : r = 13
  · subst hr; rfl
  · rw [va_up_ne _ _ hr]; unfold zs_v; split <;> first | rfl | exact absurd rfl hr
theorem zs_w14 (a b c d e f g h i j x : Int32) : va_up (zs_v a b c d e f g h i j) 14 x = zs_v a b c d e x g h i j := by
  funext r
  by_cases hr : r = 14
  · subst hr; rfl
  · rw [va_up_ne _ _ hr]; unfold zs_v; split <;> first | rfl | exact absurd rfl hr
theorem zs_w15 (a b c d e f g h i j x : Int32) : va_up (zs_v a b c d e f g h i j) 15 x = zs_v a b c d e f x h i j := by
  funext r
  by_cases hr : r = 15
  · subst hr; rfl
  · rw [va_up_ne _ _ hr]; unfold zs_v; split <;> first | rfl | exact absurd rfl hr
theorem zs_w16 (a b c d e f g h i j x : Int32) : va_up (zs_v a b c d e f g h i j) 16 x = zs_v a b c d e f g x i j := by
  funext r
  by_cases hr : r = 16
  · subst hr; rfl
  · rw [va_up_ne _ _ hr]; unfold zs_v; split <;> first | rfl | exact absurd rfl hr
theorem zs_w17 (a b c d e f g h i j x : Int32) : va_up (zs_v a b c d e f g h i j) 17 x = zs_v a b c d e f g h x j := by
  funext r
  by_cases hr : r = 17
  · subst hr; rfl
  · rw [va_up_ne _ _ hr]; unfold zs_v; split <;> first | rfl | exact absurd rfl hr
theorem zs_w18 (a b c d e f g h i j x : Int32) : va_up (zs_v a b c d e f g h i j) 18 x = zs_v a b c d e f g h i x := by
  funext r
  by_cases hr : r = 18
  · subst hr; rfl
  · rw [va_up_ne _ _ hr]; unfold zs_v; split <;> first | rfl | exact absurd rfl hr
theorem zs_mkw (u : zm_T) (v : Nat → Int32) {r0 : Nat} (h : 9 ≤ r0 ∧ r0 ≤ 18) (x : Int32) : zm_w (zs_mk u v) r0 (zn (u 0 8)) x = zs_mk u (va_up v r0 x) := by
  funext r i
  by_cases hr : r = r0
  · subst hr
    by_cases hi : i = zn (u 0 8)
    · subst hi
      rw [zm_ws]
      simp [zs_mk, va_up, h.1, h.2, show r ≠ 0 by omega]
    · rw [zm_wn _ _ (Or.inr hi)]
      simp [zs_mk, hi]
  · rw [zm_wn _ _ (Or.inl hr)]
    simp [zs_mk, va_up, hr]
theorem zs_mk0 (u : zm_T) (a b c d : Int32) : zm_w (zm_w (zm_w (zm_w (zm_w (zm_w (zm_w (zm_w (zm_w (zm_w (zm_w u 9 (zn (u 0 8)) a) 10 (zn (u 0 8)) b) 11 (zn (u 0 8)) c) 12 (zn (u 0 8)) d) 13 (zn (u 0 8)) 0) 14 (zn (u 0 8)) 0) 15 (zn (u 0 8)) 0) 16 (zn (u 0 8)) 0) 17 (zn (u 0 8)) 0) 18 (zn (u 0 8)) 0) 0 8 (u 0 8 + 1) = zs_mk u (zs_v a b c d 0 0 0 0 0 0) := by
  funext r i
  unfold zs_mk zm_w
  simp only [va_up, upd]
  by_cases h0 : r = 0
  · subst h0
    by_cases hi : i = 8
    · subst hi; simp [upd]
    · simp [upd, hi]
  · by_cases hr : 9 ≤ r ∧ r ≤ 18
    · obtain rfl | rfl | rfl | rfl | rfl | rfl | rfl | rfl | rfl | rfl : r = 9 ∨ r = 10 ∨ r = 11 ∨ r = 12 ∨ r = 13 ∨ r = 14 ∨ r = 15 ∨ r = 16 ∨ r = 17 ∨ r = 18 := by omega
      all_goals (by_cases hi : i = zn (u 0 8) <;> simp [hi, zs_v, upd])
    · simp [h0, hr, show r ≠ 9 by omega, show r ≠ 10 by omega, show r ≠ 11 by omega, show r ≠ 12 by omega, show r ≠ 13 by omega, show r ≠ 14 by omega, show r ≠ 15 by omega, show r ≠ 16 by omega, show r ≠ 17 by omega, show r ≠ 18 by omega]

set_option maxHeartbeats 4000000 in
set_option maxRecDepth 100000 in
theorem c_X10_make (l : Launch) (Y : zw_Y) (N0 : Nat) (ad : Nat → Nat) (sh : Nat → Option zw_Sh) (u g0 : zm_T) (hM : zm_S sh) (k key cn sn : Int32) (hn : 0 ≤ (u 0 8).toInt ∧ (u 0 8).toInt < 150) : zw_Met l Y N0 yX10_make cX10_make 5 (some .int) 0 0 0 0 ad sh (zm_mix u g0) [.ref (ad 0), .int k, .int key, .int cn, .int sn] (zp_G ad sh (fun v g' => ∃ r : Int32, v = some (.int r) ∧ r = u 0 8 ∧ g' = zm_mix (zs_mk u (zs_v k key cn sn 0 0 0 0 0 0)) g0)) := by
  refine zw_meth (by decide) (Nat.le_of_ble_eq_true rfl) ?_
  intro p e s m below meth c ls X hnm hl hW
  have hl : lv_has ls 5 [(0, .ref (ad 0)), (1, .int k), (2, .int key), (3, .int cn), (4, .int sn)] := hl
  refine lv_aload_n X.1 X.2.1 dX10_make_0 rfl (lv_at hl 0 rfl) ?_
  refine zr_get (v := .ref (ad 9)) X hW fs_X10_29_9 dX10_make_1 (zm_s0 hM) rfl rfl rfl ?_
  refine lv_aload_n X.1 X.2.1 dX10_make_4 rfl (lv_at hl 0 rfl) ?_
  refine zr_get (v := .int (u 0 8)) X hW fs_X10_102_9 dX10_make_5 (zm_s0 hM) rfl rfl rfl ?_
  refine lv_iload_n X.1 X.2.1 dX10_make_8 rfl (lv_at hl 1 rfl) ?_
  refine zr_iast X hW dX10_make_9 (zm_s9 hM) rfl rfl (zi_vp (by omega)) (fun H locs hW => ?_)
  have hW : zw_St Y N0 ad sh (zm_mix (zm_w u 9 (zn (u 0 8)) k) g0) s H locs := zm_st (by decide) hW
  obtain ⟨u_1, hu_1⟩ : ∃ z : zm_T, z = zm_w u 9 (zn (u 0 8)) k := ⟨_, rfl⟩
  rw [← hu_1] at hW
  refine lv_aload_n X.1 X.2.1 dX10_make_10 rfl (lv_at hl 0 rfl) ?_
  refine zr_get (v := .ref (ad 10)) X hW fs_X10_32_9 dX10_make_11 (zm_s0 hM) rfl rfl rfl ?_
  refine lv_aload_n X.1 X.2.1 dX10_make_14 rfl (lv_at hl 0 rfl) ?_
  refine zr_get (v := .int (u 0 8)) X hW fs_X10_102_9 dX10_make_15 (zm_s0 hM) rfl rfl (congrArg Value.int (show u_1 0 8 = u 0 8 from (by rw [hu_1]; rfl))) ?_
  refine lv_iload_n X.1 X.2.1 dX10_make_18 rfl (lv_at hl 2 rfl) ?_
  refine zr_iast X hW dX10_make_19 (zm_s10 hM) rfl rfl (zi_vp (by omega)) (fun H locs hW => ?_)
  have hW : zw_St Y N0 ad sh (zm_mix (zm_w u_1 10 (zn (u 0 8)) key) g0) s H locs := zm_st (by decide) hW
  obtain ⟨u_2, hu_2⟩ : ∃ z : zm_T, z = zm_w u_1 10 (zn (u 0 8)) key := ⟨_, rfl⟩
  rw [← hu_2] at hW
  refine lv_aload_n X.1 X.2.1 dX10_make_20 rfl (lv_at hl 0 rfl) ?_
  refine zr_get (v := .ref (ad 11)) X hW fs_X10_35_9 dX10_make_21 (zm_s0 hM) rfl rfl rfl ?_
  refine lv_aload_n X.1 X.2.1 dX10_make_24 rfl (lv_at hl 0 rfl) ?_
  refine zr_get (v := .int (u 0 8)) X hW fs_X10_102_9 dX10_make_25 (zm_s0 hM) rfl rfl (congrArg Value.int ((show u_2 0 8 = u_1 0 8 from (by rw [hu_2]; rfl)).trans (show u_1 0 8 = u 0 8 from (by rw [hu_1]; rfl)))) ?_
  refine lv_iload_n X.1 X.2.1 dX10_make_28 rfl (lv_at hl 3 rfl) ?_
  refine zr_iast X hW dX10_make_29 (zm_s11 hM) rfl rfl (zi_vp (by omega)) (fun H locs hW => ?_)
  have hW : zw_St Y N0 ad sh (zm_mix (zm_w u_2 11 (zn (u 0 8)) cn) g0) s H locs := zm_st (by decide) hW
  obtain ⟨u_3, hu_3⟩ : ∃ z : zm_T, z = zm_w u_2 11 (zn (u 0 8)) cn := ⟨_, rfl⟩
  rw [← hu_3] at hW
  refine lv_aload_n X.1 X.2.1 dX10_make_30 rfl (lv_at hl 0 rfl) ?_
  refine zr_get (v := .ref (ad 12)) X hW fs_X10_38_9 dX10_make_31 (zm_s0 hM) rfl rfl rfl ?_
  refine lv_aload_n X.1 X.2.1 dX10_make_34 rfl (lv_at hl 0 rfl) ?_
  refine zr_get (v := .int (u 0 8)) X hW fs_X10_102_9 dX10_make_35 (zm_s0 hM) rfl rfl (congrArg Value.int ((show u_3 0 8 = u_2 0 8 from (by rw [hu_3]; rfl)).trans ((show u_2 0 8 = u_1 0 8 from (by rw [hu_2]; rfl)).trans (show u_1 0 8 = u 0 8 from (by rw [hu_1]; rfl))))) ?_
  refine lv_iload X.1 X.2.1 dX10_make_38 (lv_at hl 4 rfl) ?_
  refine zr_iast X hW dX10_make_40 (zm_s12 hM) rfl rfl (zi_vp (by omega)) (fun H locs hW => ?_)
  have hW : zw_St Y N0 ad sh (zm_mix (zm_w u_3 12 (zn (u 0 8)) sn) g0) s H locs := zm_st (by decide) hW
  obtain ⟨u_4, hu_4⟩ : ∃ z : zm_T, z = zm_w u_3 12 (zn (u 0 8)) sn := ⟨_, rfl⟩
  rw [← hu_4] at hW
  refine lv_aload_n X.1 X.2.1 dX10_make_41 rfl (lv_at hl 0 rfl) ?_
  refine zr_get (v := .ref (ad 13)) X hW fs_X10_41_9 dX10_make_42 (zm_s0 hM) rfl rfl rfl ?_
  refine lv_aload_n X.1 X.2.1 dX10_make_45 rfl (lv_at hl 0 rfl) ?_
  refine zr_get (v := .int (u 0 8)) X hW fs_X10_102_9 dX10_make_46 (zm_s0 hM) rfl rfl (congrArg Value.int ((show u_4 0 8 = u_3 0 8 from (by rw [hu_4]; rfl)).trans ((show u_3 0 8 = u_2 0 8 from (by rw [hu_3]; rfl)).trans ((show u_2 0 8 = u_1 0 8 from (by rw [hu_2]; rfl)).trans (show u_1 0 8 = u 0 8 from (by rw [hu_1]; rfl)))))) ?_
  refine lv_iconst (v := 0) X.1 X.2.1 dX10_make_49 (by decide) ?_
  refine zr_iast X hW dX10_make_50 (zm_s13 hM) rfl rfl (zi_vp (by omega)) (fun H locs hW => ?_)
  have hW : zw_St Y N0 ad sh (zm_mix (zm_w u_4 13 (zn (u 0 8)) 0) g0) s H locs := zm_st (by decide) hW
  obtain ⟨u_5, hu_5⟩ : ∃ z : zm_T, z = zm_w u_4 13 (zn (u 0 8)) 0 := ⟨_, rfl⟩
  rw [← hu_5] at hW
  refine lv_aload_n X.1 X.2.1 dX10_make_51 rfl (lv_at hl 0 rfl) ?_
  refine zr_get (v := .ref (ad 14)) X hW fs_X10_44_9 dX10_make_52 (zm_s0 hM) rfl rfl rfl ?_
  refine lv_aload_n X.1 X.2.1 dX10_make_55 rfl (lv_at hl 0 rfl) ?_
  refine zr_get (v := .int (u 0 8)) X hW fs_X10_102_9 dX10_make_56 (zm_s0 hM) rfl rfl (congrArg Value.int ((show u_5 0 8 = u_4 0 8 from (by rw [hu_5]; rfl)).trans ((show u_4 0 8 = u_3 0 8 from (by rw [hu_4]; rfl)).trans ((show u_3 0 8 = u_2 0 8 from (by rw [hu_3]; rfl)).trans ((show u_2 0 8 = u_1 0 8 from (by rw [hu_2]; rfl)).trans (show u_1 0 8 = u 0 8 from (by rw [hu_1]; rfl))))))) ?_
  refine lv_iconst (v := 0) X.1 X.2.1 dX10_make_59 (by decide) ?_
  refine zr_iast X hW dX10_make_60 (zm_s14 hM) rfl rfl (zi_vp (by omega)) (fun H locs hW => ?_)
  have hW : zw_St Y N0 ad sh (zm_mix (zm_w u_5 14 (zn (u 0 8)) 0) g0) s H locs := zm_st (by decide) hW
  obtain ⟨u_6, hu_6⟩ : ∃ z : zm_T, z = zm_w u_5 14 (zn (u 0 8)) 0 := ⟨_, rfl⟩
  rw [← hu_6] at hW
  refine lv_aload_n X.1 X.2.1 dX10_make_61 rfl (lv_at hl 0 rfl) ?_
  refine zr_get (v := .ref (ad 15)) X hW fs_X10_47_9 dX10_make_62 (zm_s0 hM) rfl rfl rfl ?_
  refine lv_aload_n X.1 X.2.1 dX10_make_65 rfl (lv_at hl 0 rfl) ?_
  refine zr_get (v := .int (u 0 8)) X hW fs_X10_102_9 dX10_make_66 (zm_s0 hM) rfl rfl (congrArg Value.int ((show u_6 0 8 = u_5 0 8 from (by rw [hu_6]; rfl)).trans ((show u_5 0 8 = u_4 0 8 from (by rw [hu_5]; rfl)).trans ((show u_4 0 8 = u_3 0 8 from (by rw [hu_4]; rfl)).trans ((show u_3 0 8 = u_2 0 8 from (by rw [hu_3]; rfl)).trans ((show u_2 0 8 = u_1 0 8 from (by rw [hu_2]; rfl)).trans (show u_1 0 8 = u 0 8 from (by rw [hu_1]; rfl)))))))) ?_
  refine lv_iconst (v := 0) X.1 X.2.1 dX10_make_69 (by decide) ?_
  refine zr_iast X hW dX10_make_70 (zm_s15 hM) rfl rfl (zi_vp (by omega)) (fun H locs hW => ?_)
  have hW : zw_St Y N0 ad sh (zm_mix (zm_w u_6 15 (zn (u 0 8)) 0) g0) s H locs := zm_st (by decide) hW
  obtain ⟨u_7, hu_7⟩ : ∃ z : zm_T, z = zm_w u_6 15 (zn (u 0 8)) 0 := ⟨_, rfl⟩
  rw [← hu_7] at hW
  refine lv_aload_n X.1 X.2.1 dX10_make_71 rfl (lv_at hl 0 rfl) ?_
  refine zr_get (v := .ref (ad 16)) X hW fs_X10_50_9 dX10_make_72 (zm_s0 hM) rfl rfl rfl ?_
  refine lv_aload_n X.1 X.2.1 dX10_make_75 rfl (lv_at hl 0 rfl) ?_
  refine zr_get (v := .int (u 0 8)) X hW fs_X10_102_9 dX10_make_76 (zm_s0 hM) rfl rfl (congrArg Value.int ((show u_7 0 8 = u_6 0 8 from (by rw [hu_7]; rfl)).trans ((show u_6 0 8 = u_5 0 8 from (by rw [hu_6]; rfl)).trans ((show u_5 0 8 = u_4 0 8 from (by rw [hu_5]; rfl)).trans ((show u_4 0 8 = u_3 0 8 from (by rw [hu_4]; rfl)).trans ((show u_3 0 8 = u_2 0 8 from (by rw [hu_3]; rfl)).trans ((show u_2 0 8 = u_1 0 8 from (by rw [hu_2]; rfl)).trans (show u_1 0 8 = u 0 8 from (by rw [hu_1]; rfl))))))))) ?_
  refine lv_iconst (v := 0) X.1 X.2.1 dX10_make_79 (by decide) ?_
  refine zr_iast X hW dX10_make_80 (zm_s16 hM) rfl rfl (zi_vp (by omega)) (fun H locs hW => ?_)
  have hW : zw_St Y N0 ad sh (zm_mix (zm_w u_7 16 (zn (u 0 8)) 0) g0) s H locs := zm_st (by decide) hW
  obtain ⟨u_8, hu_8⟩ : ∃ z : zm_T, z = zm_w u_7 16 (zn (u 0 8)) 0 := ⟨_, rfl⟩
  rw [← hu_8] at hW
  refine lv_aload_n X.1 X.2.1 dX10_make_81 rfl (lv_at hl 0 rfl) ?_
  refine zr_get (v := .ref (ad 17)) X hW fs_X10_53_9 dX10_make_82 (zm_s0 hM) rfl rfl rfl ?_
  refine lv_aload_n X.1 X.2.1 dX10_make_85 rfl (lv_at hl 0 rfl) ?_
  refine zr_get (v := .int (u 0 8)) X hW fs_X10_102_9 dX10_make_86 (zm_s0 hM) rfl rfl (congrArg Value.int ((show u_8 0 8 = u_7 0 8 from (by rw [hu_8]; rfl)).trans ((show u_7 0 8 = u_6 0 8 from (by rw [hu_7]; rfl)).trans ((show u_6 0 8 = u_5 0 8 from (by rw [hu_6]; rfl)).trans ((show u_5 0 8 = u_4 0 8 from (by rw [hu_5]; rfl)).trans ((show u_4 0 8 = u_3 0 8 from (by rw [hu_4]; rfl)).trans ((show u_3 0 8 = u_2 0 8 from (by rw [hu_3]; rfl)).trans ((show u_2 0 8 = u_1 0 8 from (by rw [hu_2]; rfl)).trans (show u_1 0 8 = u 0 8 from (by rw [hu_1]; rfl)))))))))) ?_
  refine lv_iconst (v := 0) X.1 X.2.1 dX10_make_89 (by decide) ?_
  refine zr_iast X hW dX10_make_90 (zm_s17 hM) rfl rfl (zi_vp (by omega)) (fun H locs hW => ?_)
  have hW : zw_St Y N0 ad sh (zm_mix (zm_w u_8 17 (zn (u 0 8)) 0) g0) s H locs := zm_st (by decide) hW
  obtain ⟨u_9, hu_9⟩ : ∃ z : zm_T, z = zm_w u_8 17 (zn (u 0 8)) 0 := ⟨_, rfl⟩
  rw [← hu_9] at hW
  refine lv_aload_n X.1 X.2.1 dX10_make_91 rfl (lv_at hl 0 rfl) ?_
  refine zr_get (v := .ref (ad 18)) X hW fs_X10_56_9 dX10_make_92 (zm_s0 hM) rfl rfl rfl ?_
  refine lv_aload_n X.1 X.2.1 dX10_make_95 rfl (lv_at hl 0 rfl) ?_
  refine zr_get (v := .int (u 0 8)) X hW fs_X10_102_9 dX10_make_96 (zm_s0 hM) rfl rfl (congrArg Value.int ((show u_9 0 8 = u_8 0 8 from (by rw [hu_9]; rfl)).trans ((show u_8 0 8 = u_7 0 8 from (by rw [hu_8]; rfl)).trans ((show u_7 0 8 = u_6 0 8 from (by rw [hu_7]; rfl)).trans ((show u_6 0 8 = u_5 0 8 from (by rw [hu_6]; rfl)).trans ((show u_5 0 8 = u_4 0 8 from (by rw [hu_5]; rfl)).trans ((show u_4 0 8 = u_3 0 8 from (by rw [hu_4]; rfl)).trans ((show u_3 0 8 = u_2 0 8 from (by rw [hu_3]; rfl)).trans ((show u_2 0 8 = u_1 0 8 from (by rw [hu_2]; rfl)).trans (show u_1 0 8 = u 0 8 from (by rw [hu_1]; rfl))))))))))) ?_
  refine lv_iconst (v := 0) X.1 X.2.1 dX10_make_99 (by decide) ?_
  refine zr_iast X hW dX10_make_100 (zm_s18 hM) rfl rfl (zi_vp (by omega)) (fun H locs hW => ?_)
  have hW : zw_St Y N0 ad sh (zm_mix (zm_w u_9 18 (zn (u 0 8)) 0) g0) s H locs := zm_st (by decide) hW
  obtain ⟨u_10, hu_10⟩ : ∃ z : zm_T, z = zm_w u_9 18 (zn (u 0 8)) 0 := ⟨_, rfl⟩
  rw [← hu_10] at hW
  refine lv_aload_n X.1 X.2.1 dX10_make_101 rfl (lv_at hl 0 rfl) ?_
  refine lv_dup X.1 X.2.1 dX10_make_102 rfl ?_
  refine zr_get (v := .int (u 0 8)) X hW fs_X10_102_9 dX10_make_103 (zm_s0 hM) rfl rfl (congrArg Value.int ((show u_10 0 8 = u_9 0 8 from (by rw [hu_10]; rfl)).trans ((show u_9 0 8 = u_8 0 8 from (by rw [hu_9]; rfl)).trans ((show u_8 0 8 = u_7 0 8 from (by rw [hu_8]; rfl)).trans ((show u_7 0 8 = u_6 0 8 from (by rw [hu_7]; rfl)).trans ((show u_6 0 8 = u_5 0 8 from (by rw [hu_6]; rfl)).trans ((show u_5 0 8 = u_4 0 8 from (by rw [hu_5]; rfl)).trans ((show u_4 0 8 = u_3 0 8 from (by rw [hu_4]; rfl)).trans ((show u_3 0 8 = u_2 0 8 from (by rw [hu_3]; rfl)).trans ((show u_2 0 8 = u_1 0 8 from (by rw [hu_2]; rfl)).trans (show u_1 0 8 = u 0 8 from (by rw [hu_1]; rfl)))))))))))) ?_
  refine lv_iconst (v := 1) X.1 X.2.1 dX10_make_106 (by decide) ?_
  refine lv_iadd X.1 X.2.1 dX10_make_107 ?_
  refine zr_puti X hW fs_X10_102_9 dX10_make_108 (zm_s0 hM) rfl rfl rfl rfl (fun H locs hW => ?_)
  have hW : zw_St Y N0 ad sh (zm_mix (zm_w u_10 0 8 ((u 0 8) + 1)) g0) s H locs := zm_st (by decide) hW
  obtain ⟨u_11, hu_11⟩ : ∃ z : zm_T, z = zm_w u_10 0 8 ((u 0 8) + 1) := ⟨_, rfl⟩
  rw [← hu_11] at hW
  refine lv_aload_n X.1 X.2.1 dX10_make_111 rfl (lv_at hl 0 rfl) ?_
  refine zr_get (v := .int ((u 0 8) + 1)) X hW fs_X10_102_9 dX10_make_112 (zm_s0 hM) rfl rfl (congrArg Value.int (show u_11 0 8 = (u 0 8) + 1 from (by rw [hu_11]; exact zm_ws _ _ _ _))) ?_
  refine lv_iconst (v := 1) X.1 X.2.1 dX10_make_115 (by decide) ?_
  refine lv_isub X.1 X.2.1 dX10_make_116 ?_
  have e9 : u_11 = zs_mk u (zs_v k key cn sn 0 0 0 0 0 0) := by rw [hu_11, hu_10, hu_9, hu_8, hu_7, hu_6, hu_5, hu_4, hu_3, hu_2, hu_1]; exact zs_mk0 u k key cn sn
  exact zr_iret X hW dX10_make_117 (Nat.le_refl _) (Nat.le_refl _) ⟨rfl, rfl, _, rfl, by rw [Int32.add_sub_cancel], by rw [e9]⟩

set_option maxHeartbeats 4000000 in
set_option maxRecDepth 100000 in
theorem c_X10_makeProof (l : Launch) (Y : zw_Y) (N0 : Nat) (ad : Nat → Nat) (sh : Nat → Option zw_Sh) (u g0 : zm_T) (hM : zm_S sh) (key cn tm : Int32) (hn : 0 ≤ (u 0 8).toInt ∧ (u 0 8).toInt < 150) : zw_Met l Y N0 yX10_makeProof cX10_makeProof 5 (some .int) 1 24 0 0 ad sh (zm_mix u g0) [.ref (ad 0), .int key, .int cn, .int tm] (zp_G ad sh (fun v g' => ∃ r : Int32, v = some (.int r) ∧ r = u 0 8 ∧ g' = zm_mix (zs_mk u (zs_v 1 key cn (-1) tm 0 0 0 0 0)) g0)) := by
  refine zw_meth (by decide) (Nat.le_of_ble_eq_true rfl) ?_
  intro p e s m below meth c ls X hnm hl hW
  have hl : lv_has ls 5 [(0, .ref (ad 0)), (1, .int key), (2, .int cn), (3, .int tm)] := hl
  refine lv_aload_n X.1 X.2.1 dX10_makeProof_0 rfl (lv_at hl 0 rfl) ?_
  refine lv_iconst (v := 1) X.1 X.2.1 dX10_makeProof_1 (by decide) ?_
  refine lv_iload_n X.1 X.2.1 dX10_makeProof_2 rfl (lv_at hl 1 rfl) ?_
  refine lv_iload_n X.1 X.2.1 dX10_makeProof_3 rfl (lv_at hl 2 rfl) ?_
  refine lv_iconst (v := (-1)) X.1 X.2.1 dX10_makeProof_4 (by decide) ?_
  refine zr_callV (As := [.int 1, .int key, .int cn, .int ((-1))]) (rest := []) X hW hl.1 md_X10_make ms_X10_105 dX10_makeProof_5 (zm_s0 hM) rfl rfl rfl rfl (Nat.le_of_ble_eq_true rfl) ⟨Nat.le_of_ble_eq_true rfl, Nat.le_of_ble_eq_true rfl⟩ ⟨Nat.le_of_ble_eq_true rfl, Nat.le_of_ble_eq_true rfl⟩ (c_X10_make l Y N0 ad sh u g0 hM 1 key cn ((-1)) (by omega)) (fun v9 ad9 sh9 g9 H locs hp hW => ?_)
  obtain ⟨rfl, rfl, _, rfl, rfl, rfl⟩ := hp
  obtain ⟨u_2, hu_2⟩ : ∃ z : zm_T, z = zs_mk u (zs_v 1 key cn ((-1)) 0 0 0 0 0 0) := ⟨_, rfl⟩
  rw [← hu_2] at hW
  refine lv_istore (lv' := [(4, .int (u 0 8)), (0, .ref (ad 0)), (1, .int key), (2, .int cn), (3, .int tm)]) X.1 X.2.1 dX10_makeProof_8 hl (by decide) rfl (fun ls hl => ?_)
  refine lv_aload_n X.1 X.2.1 dX10_makeProof_10 rfl (lv_at hl 1 rfl) ?_
  refine zr_get (v := .ref (ad 13)) X hW fs_X10_41_9 dX10_makeProof_11 (zm_s0 hM) rfl rfl rfl ?_
  refine lv_iload X.1 X.2.1 dX10_makeProof_14 (lv_at hl 0 rfl) ?_
  refine lv_iload_n X.1 X.2.1 dX10_makeProof_16 rfl (lv_at hl 4 rfl) ?_
  refine zr_iast X hW dX10_makeProof_17 (zm_s13 hM) rfl rfl (zi_vp (by omega)) (fun H locs hW => ?_)
  have hW : zw_St Y N0 ad sh (zm_mix (zm_w u_2 13 (zn (u 0 8)) tm) g0) s H locs := zm_st (by decide) hW
  obtain ⟨u_4, hu_4⟩ : ∃ z : zm_T, z = zm_w u_2 13 (zn (u 0 8)) tm := ⟨_, rfl⟩
  rw [← hu_4] at hW
  refine lv_iload X.1 X.2.1 dX10_makeProof_18 (lv_at hl 0 rfl) ?_
  have e9 : u_4 = zs_mk u (zs_v 1 key cn (-1) tm 0 0 0 0 0) := by rw [hu_4, hu_2]; simp only [zs_mkw _ _ (show 9 ≤ 13 ∧ 13 ≤ 18 by decide), zs_mkw _ _ (show 9 ≤ 14 ∧ 14 ≤ 18 by decide), zs_mkw _ _ (show 9 ≤ 15 ∧ 15 ≤ 18 by decide), zs_w13, zs_w14, zs_w15]
  exact zr_iret X hW dX10_makeProof_20 (Nat.le_refl _) (Nat.le_refl _) ⟨rfl, rfl, _, rfl, rfl, by rw [e9]⟩

set_option maxHeartbeats 4000000 in
set_option maxRecDepth 100000 in
theorem c_X10_makeTicket (l : Launch) (Y : zw_Y) (N0 : Nat) (ad : Nat → Nat) (sh : Nat → Option zw_Sh) (u g0 : zm_T) (hM : zm_S sh) (key cn sk t1 t2 t3 : Int32) (hn : 0 ≤ (u 0 8).toInt ∧ (u 0 8).toInt < 150) : zw_Met l Y N0 yX10_makeTicket cX10_makeTicket 8 (some .int) 1 24 0 0 ad sh (zm_mix u g0) [.ref (ad 0), .int key, .int cn, .int sk, .int t1, .int t2, .int t3] (zp_G ad sh (fun v g' => ∃ r : Int32, v = some (.int r) ∧ r = u 0 8 ∧ g' = zm_mix (zs_mk u (zs_v 2 key cn sk t1 t2 t3 0 0 0)) g0)) := by
  refine zw_meth (by decide) (Nat.le_of_ble_eq_true rfl) ?_
  intro p e s m below meth c ls X hnm hl hW
  have hl : lv_has ls 8 [(0, .ref (ad 0)), (1, .int key), (2, .int cn), (3, .int sk), (4, .int t1), (5, .int t2), (6, .int t3)] := hl
  refine lv_aload_n X.1 X.2.1 dX10_makeTicket_0 rfl (lv_at hl 0 rfl) ?_
  refine lv_iconst (v := 2) X.1 X.2.1 dX10_makeTicket_1 (by decide) ?_
  refine lv_iload_n X.1 X.2.1 dX10_makeTicket_2 rfl (lv_at hl 1 rfl) ?_
  refine lv_iload_n X.1 X.2.1 dX10_makeTicket_3 rfl (lv_at hl 2 rfl) ?_
  refine lv_iload_n X.1 X.2.1 dX10_makeTicket_4 rfl (lv_at hl 3 rfl) ?_
  refine zr_callV (As := [.int 2, .int key, .int cn, .int sk]) (rest := []) X hW hl.1 md_X10_make ms_X10_105 dX10_makeTicket_5 (zm_s0 hM) rfl rfl rfl rfl (Nat.le_of_ble_eq_true rfl) ⟨Nat.le_of_ble_eq_true rfl, Nat.le_of_ble_eq_true rfl⟩ ⟨Nat.le_of_ble_eq_true rfl, Nat.le_of_ble_eq_true rfl⟩ (c_X10_make l Y N0 ad sh u g0 hM 2 key cn sk (by omega)) (fun v9 ad9 sh9 g9 H locs hp hW => ?_)
  obtain ⟨rfl, rfl, _, rfl, rfl, rfl⟩ := hp
  obtain ⟨u_2, hu_2⟩ : ∃ z : zm_T, z = zs_mk u (zs_v 2 key cn sk 0 0 0 0 0 0) := ⟨_, rfl⟩
  rw [← hu_2] at hW
  refine lv_istore (lv' := [(7, .int (u 0 8)), (0, .ref (ad 0)), (1, .int key), (2, .int cn), (3, .int sk), (4, .int t1), (5, .int t2), (6, .int t3)]) X.1 X.2.1 dX10_makeTicket_8 hl (by decide) rfl (fun ls hl => ?_)
  refine lv_aload_n X.1 X.2.1 dX10_makeTicket_10 rfl (lv_at hl 1 rfl) ?_
  refine zr_get (v := .ref (ad 13)) X hW fs_X10_41_9 dX10_makeTicket_11 (zm_s0 hM) rfl rfl rfl ?_
  refine lv_iload X.1 X.2.1 dX10_makeTicket_14 (lv_at hl 0 rfl) ?_
  refine lv_iload X.1 X.2.1 dX10_makeTicket_16 (lv_at hl 5 rfl) ?_
  refine zr_iast X hW dX10_makeTicket_18 (zm_s13 hM) rfl rfl (zi_vp (by omega)) (fun H locs hW => ?_)
  have hW : zw_St Y N0 ad sh (zm_mix (zm_w u_2 13 (zn (u 0 8)) t1) g0) s H locs := zm_st (by decide) hW
  obtain ⟨u_4, hu_4⟩ : ∃ z : zm_T, z = zm_w u_2 13 (zn (u 0 8)) t1 := ⟨_, rfl⟩
  rw [← hu_4] at hW
  refine lv_aload_n X.1 X.2.1 dX10_makeTicket_19 rfl (lv_at hl 1 rfl) ?_
  refine zr_get (v := .ref (ad 14)) X hW fs_X10_44_9 dX10_makeTicket_20 (zm_s0 hM) rfl rfl rfl ?_
  refine lv_iload X.1 X.2.1 dX10_makeTicket_23 (lv_at hl 0 rfl) ?_
  refine lv_iload X.1 X.2.1 dX10_makeTicket_25 (lv_at hl 6 rfl) ?_
  refine zr_iast X hW dX10_makeTicket_27 (zm_s14 hM) rfl rfl (zi_vp (by omega)) (fun H locs hW => ?_)
  have hW : zw_St Y N0 ad sh (zm_mix (zm_w u_4 14 (zn (u 0 8)) t2) g0) s H locs := zm_st (by decide) hW
  obtain ⟨u_5, hu_5⟩ : ∃ z : zm_T, z = zm_w u_4 14 (zn (u 0 8)) t2 := ⟨_, rfl⟩
  rw [← hu_5] at hW
  refine lv_aload_n X.1 X.2.1 dX10_makeTicket_28 rfl (lv_at hl 1 rfl) ?_
  refine zr_get (v := .ref (ad 15)) X hW fs_X10_47_9 dX10_makeTicket_29 (zm_s0 hM) rfl rfl rfl ?_
  refine lv_iload X.1 X.2.1 dX10_makeTicket_32 (lv_at hl 0 rfl) ?_
  refine lv_iload X.1 X.2.1 dX10_makeTicket_34 (lv_at hl 7 rfl) ?_
  refine zr_iast X hW dX10_makeTicket_36 (zm_s15 hM) rfl rfl (zi_vp (by omega)) (fun H locs hW => ?_)
  have hW : zw_St Y N0 ad sh (zm_mix (zm_w u_5 15 (zn (u 0 8)) t3) g0) s H locs := zm_st (by decide) hW
  obtain ⟨u_6, hu_6⟩ : ∃ z : zm_T, z = zm_w u_5 15 (zn (u 0 8)) t3 := ⟨_, rfl⟩
  rw [← hu_6] at hW
  refine lv_iload X.1 X.2.1 dX10_makeTicket_37 (lv_at hl 0 rfl) ?_
  have e9 : u_6 = zs_mk u (zs_v 2 key cn sk t1 t2 t3 0 0 0) := by rw [hu_6, hu_5, hu_4, hu_2]; simp only [zs_mkw _ _ (show 9 ≤ 13 ∧ 13 ≤ 18 by decide), zs_mkw _ _ (show 9 ≤ 14 ∧ 14 ≤ 18 by decide), zs_mkw _ _ (show 9 ≤ 15 ∧ 15 ≤ 18 by decide), zs_w13, zs_w14, zs_w15]
  exact zr_iret X hW dX10_makeTicket_39 (Nat.le_refl _) (Nat.le_refl _) ⟨rfl, rfl, _, rfl, rfl, by rw [e9]⟩

set_option maxHeartbeats 4000000 in
set_option maxRecDepth 100000 in
theorem c_X10_makePart (l : Launch) (Y : zw_Y) (N0 : Nat) (ad : Nat → Nat) (sh : Nat → Option zw_Sh) (u g0 : zm_T) (hM : zm_S sh) (key sk t1 t2 t3 : Int32) (hn : 0 ≤ (u 0 8).toInt ∧ (u 0 8).toInt < 150) : zw_Met l Y N0 yX10_makePart cX10_makePart 7 (some .int) 1 24 0 0 ad sh (zm_mix u g0) [.ref (ad 0), .int key, .int sk, .int t1, .int t2, .int t3] (zp_G ad sh (fun v g' => ∃ r : Int32, v = some (.int r) ∧ r = u 0 8 ∧ g' = zm_mix (zs_mk u (zs_v 3 key (-1) sk t1 t2 t3 0 0 0)) g0)) := by
  refine zw_meth (by decide) (Nat.le_of_ble_eq_true rfl) ?_
  intro p e s m below meth c ls X hnm hl hW
  have hl : lv_has ls 7 [(0, .ref (ad 0)), (1, .int key), (2, .int sk), (3, .int t1), (4, .int t2), (5, .int t3)] := hl
  refine lv_aload_n X.1 X.2.1 dX10_makePart_0 rfl (lv_at hl 0 rfl) ?_
  refine lv_iconst (v := 3) X.1 X.2.1 dX10_makePart_1 (by decide) ?_
  refine lv_iload_n X.1 X.2.1 dX10_makePart_2 rfl (lv_at hl 1 rfl) ?_
  refine lv_iconst (v := (-1)) X.1 X.2.1 dX10_makePart_3 (by decide) ?_
  refine lv_iload_n X.1 X.2.1 dX10_makePart_4 rfl (lv_at hl 2 rfl) ?_
  refine zr_callV (As := [.int 3, .int key, .int ((-1)), .int sk]) (rest := []) X hW hl.1 md_X10_make ms_X10_105 dX10_makePart_5 (zm_s0 hM) rfl rfl rfl rfl (Nat.le_of_ble_eq_true rfl) ⟨Nat.le_of_ble_eq_true rfl, Nat.le_of_ble_eq_true rfl⟩ ⟨Nat.le_of_ble_eq_true rfl, Nat.le_of_ble_eq_true rfl⟩ (c_X10_make l Y N0 ad sh u g0 hM 3 key ((-1)) sk (by omega)) (fun v9 ad9 sh9 g9 H locs hp hW => ?_)
  obtain ⟨rfl, rfl, _, rfl, rfl, rfl⟩ := hp
  obtain ⟨u_2, hu_2⟩ : ∃ z : zm_T, z = zs_mk u (zs_v 3 key ((-1)) sk 0 0 0 0 0 0) := ⟨_, rfl⟩
  rw [← hu_2] at hW
  refine lv_istore (lv' := [(6, .int (u 0 8)), (0, .ref (ad 0)), (1, .int key), (2, .int sk), (3, .int t1), (4, .int t2), (5, .int t3)]) X.1 X.2.1 dX10_makePart_8 hl (by decide) rfl (fun ls hl => ?_)
  refine lv_aload_n X.1 X.2.1 dX10_makePart_10 rfl (lv_at hl 1 rfl) ?_
  refine zr_get (v := .ref (ad 13)) X hW fs_X10_41_9 dX10_makePart_11 (zm_s0 hM) rfl rfl rfl ?_
  refine lv_iload X.1 X.2.1 dX10_makePart_14 (lv_at hl 0 rfl) ?_
  refine lv_iload_n X.1 X.2.1 dX10_makePart_16 rfl (lv_at hl 4 rfl) ?_
  refine zr_iast X hW dX10_makePart_17 (zm_s13 hM) rfl rfl (zi_vp (by omega)) (fun H locs hW => ?_)
  have hW : zw_St Y N0 ad sh (zm_mix (zm_w u_2 13 (zn (u 0 8)) t1) g0) s H locs := zm_st (by decide) hW
  obtain ⟨u_4, hu_4⟩ : ∃ z : zm_T, z = zm_w u_2 13 (zn (u 0 8)) t1 := ⟨_, rfl⟩
  rw [← hu_4] at hW
  refine lv_aload_n X.1 X.2.1 dX10_makePart_18 rfl (lv_at hl 1 rfl) ?_
  refine zr_get (v := .ref (ad 14)) X hW fs_X10_44_9 dX10_makePart_19 (zm_s0 hM) rfl rfl rfl ?_
  refine lv_iload X.1 X.2.1 dX10_makePart_22 (lv_at hl 0 rfl) ?_
  refine lv_iload X.1 X.2.1 dX10_makePart_24 (lv_at hl 5 rfl) ?_
  refine zr_iast X hW dX10_makePart_26 (zm_s14 hM) rfl rfl (zi_vp (by omega)) (fun H locs hW => ?_)
  have hW : zw_St Y N0 ad sh (zm_mix (zm_w u_4 14 (zn (u 0 8)) t2) g0) s H locs := zm_st (by decide) hW
  obtain ⟨u_5, hu_5⟩ : ∃ z : zm_T, z = zm_w u_4 14 (zn (u 0 8)) t2 := ⟨_, rfl⟩
  rw [← hu_5] at hW
  refine lv_aload_n X.1 X.2.1 dX10_makePart_27 rfl (lv_at hl 1 rfl) ?_
  refine zr_get (v := .ref (ad 15)) X hW fs_X10_47_9 dX10_makePart_28 (zm_s0 hM) rfl rfl rfl ?_
  refine lv_iload X.1 X.2.1 dX10_makePart_31 (lv_at hl 0 rfl) ?_
  refine lv_iload X.1 X.2.1 dX10_makePart_33 (lv_at hl 6 rfl) ?_
  refine zr_iast X hW dX10_makePart_35 (zm_s15 hM) rfl rfl (zi_vp (by omega)) (fun H locs hW => ?_)
  have hW : zw_St Y N0 ad sh (zm_mix (zm_w u_5 15 (zn (u 0 8)) t3) g0) s H locs := zm_st (by decide) hW
  obtain ⟨u_6, hu_6⟩ : ∃ z : zm_T, z = zm_w u_5 15 (zn (u 0 8)) t3 := ⟨_, rfl⟩
  rw [← hu_6] at hW
  refine lv_iload X.1 X.2.1 dX10_makePart_36 (lv_at hl 0 rfl) ?_
  have e9 : u_6 = zs_mk u (zs_v 3 key (-1) sk t1 t2 t3 0 0 0) := by rw [hu_6, hu_5, hu_4, hu_2]; simp only [zs_mkw _ _ (show 9 ≤ 13 ∧ 13 ≤ 18 by decide), zs_mkw _ _ (show 9 ≤ 14 ∧ 14 ≤ 18 by decide), zs_mkw _ _ (show 9 ≤ 15 ∧ 15 ≤ 18 by decide), zs_w13, zs_w14, zs_w15]
  exact zr_iret X hW dX10_makePart_38 (Nat.le_refl _) (Nat.le_refl _) ⟨rfl, rfl, _, rfl, rfl, by rw [e9]⟩

set_option maxHeartbeats 4000000 in
set_option maxRecDepth 100000 in
theorem c_X10_makeClaim (l : Launch) (Y : zw_Y) (N0 : Nat) (ad : Nat → Nat) (sh : Nat → Option zw_Sh) (u g0 : zm_T) (hM : zm_S sh) (key cn t1 t2 : Int32) (hn : 0 ≤ (u 0 8).toInt ∧ (u 0 8).toInt < 150) : zw_Met l Y N0 yX10_makeClaim cX10_makeClaim 6 (some .int) 1 24 0 0 ad sh (zm_mix u g0) [.ref (ad 0), .int key, .int cn, .int t1, .int t2] (zp_G ad sh (fun v g' => ∃ r : Int32, v = some (.int r) ∧ r = u 0 8 ∧ g' = zm_mix (zs_mk u (zs_v 4 key cn (-1) t1 t2 0 0 0 0)) g0)) := by
  refine zw_meth (by decide) (Nat.le_of_ble_eq_true rfl) ?_
  intro p e s m below meth c ls X hnm hl hW
  have hl : lv_has ls 6 [(0, .ref (ad 0)), (1, .int key), (2, .int cn), (3, .int t1), (4, .int t2)] := hl
  refine lv_aload_n X.1 X.2.1 dX10_makeClaim_0 rfl (lv_at hl 0 rfl) ?_
  refine lv_iconst (v := 4) X.1 X.2.1 dX10_makeClaim_1 (by decide) ?_
  refine lv_iload_n X.1 X.2.1 dX10_makeClaim_2 rfl (lv_at hl 1 rfl) ?_
  refine lv_iload_n X.1 X.2.1 dX10_makeClaim_3 rfl (lv_at hl 2 rfl) ?_
  refine lv_iconst (v := (-1)) X.1 X.2.1 dX10_makeClaim_4 (by decide) ?_
  refine zr_callV (As := [.int 4, .int key, .int cn, .int ((-1))]) (rest := []) X hW hl.1 md_X10_make ms_X10_105 dX10_makeClaim_5 (zm_s0 hM) rfl rfl rfl rfl (Nat.le_of_ble_eq_true rfl) ⟨Nat.le_of_ble_eq_true rfl, Nat.le_of_ble_eq_true rfl⟩ ⟨Nat.le_of_ble_eq_true rfl, Nat.le_of_ble_eq_true rfl⟩ (c_X10_make l Y N0 ad sh u g0 hM 4 key cn ((-1)) (by omega)) (fun v9 ad9 sh9 g9 H locs hp hW => ?_)
  obtain ⟨rfl, rfl, _, rfl, rfl, rfl⟩ := hp
  obtain ⟨u_2, hu_2⟩ : ∃ z : zm_T, z = zs_mk u (zs_v 4 key cn ((-1)) 0 0 0 0 0 0) := ⟨_, rfl⟩
  rw [← hu_2] at hW
  refine lv_istore (lv' := [(5, .int (u 0 8)), (0, .ref (ad 0)), (1, .int key), (2, .int cn), (3, .int t1), (4, .int t2)]) X.1 X.2.1 dX10_makeClaim_8 hl (by decide) rfl (fun ls hl => ?_)
  refine lv_aload_n X.1 X.2.1 dX10_makeClaim_10 rfl (lv_at hl 1 rfl) ?_
  refine zr_get (v := .ref (ad 13)) X hW fs_X10_41_9 dX10_makeClaim_11 (zm_s0 hM) rfl rfl rfl ?_
  refine lv_iload X.1 X.2.1 dX10_makeClaim_14 (lv_at hl 0 rfl) ?_
  refine lv_iload_n X.1 X.2.1 dX10_makeClaim_16 rfl (lv_at hl 4 rfl) ?_
  refine zr_iast X hW dX10_makeClaim_17 (zm_s13 hM) rfl rfl (zi_vp (by omega)) (fun H locs hW => ?_)
  have hW : zw_St Y N0 ad sh (zm_mix (zm_w u_2 13 (zn (u 0 8)) t1) g0) s H locs := zm_st (by decide) hW
  obtain ⟨u_4, hu_4⟩ : ∃ z : zm_T, z = zm_w u_2 13 (zn (u 0 8)) t1 := ⟨_, rfl⟩
  rw [← hu_4] at hW
  refine lv_aload_n X.1 X.2.1 dX10_makeClaim_18 rfl (lv_at hl 1 rfl) ?_
  refine zr_get (v := .ref (ad 14)) X hW fs_X10_44_9 dX10_makeClaim_19 (zm_s0 hM) rfl rfl rfl ?_
  refine lv_iload X.1 X.2.1 dX10_makeClaim_22 (lv_at hl 0 rfl) ?_
  refine lv_iload X.1 X.2.1 dX10_makeClaim_24 (lv_at hl 5 rfl) ?_
  refine zr_iast X hW dX10_makeClaim_26 (zm_s14 hM) rfl rfl (zi_vp (by omega)) (fun H locs hW => ?_)
  have hW : zw_St Y N0 ad sh (zm_mix (zm_w u_4 14 (zn (u 0 8)) t2) g0) s H locs := zm_st (by decide) hW
  obtain ⟨u_5, hu_5⟩ : ∃ z : zm_T, z = zm_w u_4 14 (zn (u 0 8)) t2 := ⟨_, rfl⟩
  rw [← hu_5] at hW
  refine lv_iload X.1 X.2.1 dX10_makeClaim_27 (lv_at hl 0 rfl) ?_
  have e9 : u_5 = zs_mk u (zs_v 4 key cn (-1) t1 t2 0 0 0 0) := by rw [hu_5, hu_4, hu_2]; simp only [zs_mkw _ _ (show 9 ≤ 13 ∧ 13 ≤ 18 by decide), zs_mkw _ _ (show 9 ≤ 14 ∧ 14 ≤ 18 by decide), zs_mkw _ _ (show 9 ≤ 15 ∧ 15 ≤ 18 by decide), zs_w13, zs_w14, zs_w15]
  exact zr_iret X hW dX10_makeClaim_29 (Nat.le_refl _) (Nat.le_refl _) ⟨rfl, rfl, _, rfl, rfl, by rw [e9]⟩

set_option maxHeartbeats 4000000 in
set_option maxRecDepth 100000 in
theorem c_X10_request (l : Launch) (Y : zw_Y) (N0 : Nat) (ad : Nat → Nat) (sh : Nat → Option zw_Sh) (u g0 : zm_T) (hM : zm_S sh) (a t key : Int32) (ha : 0 ≤ a.toInt ∧ a.toInt ≤ 5) : zw_Met l Y N0 yX10_request cX10_request 4 none 0 0 0 0 ad sh (zm_mix u g0) [.ref (ad 0), .int a, .int t, .int key] (zp_G ad sh (fun v g' => v = none ∧ g' = zm_mix (zs_rq u (zn a) t key) g0)) := by
  refine zw_meth (by decide) (Nat.le_of_ble_eq_true rfl) ?_
  intro p e s m below meth c ls X hnm hl hW
  have hl : lv_has ls 4 [(0, .ref (ad 0)), (1, .int a), (2, .int t), (3, .int key)] := hl
  refine lv_aload_n X.1 X.2.1 dX10_request_0 rfl (lv_at hl 0 rfl) ?_
  refine lv_dup X.1 X.2.1 dX10_request_1 rfl ?_
  refine zr_get (v := .int (u 0 19)) X hW fs_X10_109_9 dX10_request_2 (zm_s0 hM) rfl rfl rfl ?_
  refine lv_iconst (v := 1) X.1 X.2.1 dX10_request_5 (by decide) ?_
  refine lv_iadd X.1 X.2.1 dX10_request_6 ?_
  refine zr_puti X hW fs_X10_109_9 dX10_request_7 (zm_s0 hM) rfl rfl rfl rfl (fun H locs hW => ?_)
  have hW : zw_St Y N0 ad sh (zm_mix (zm_w u 0 19 ((u 0 19) + 1)) g0) s H locs := zm_st (by decide) hW
  obtain ⟨u_1, hu_1⟩ : ∃ z : zm_T, z = zm_w u 0 19 ((u 0 19) + 1) := ⟨_, rfl⟩
  rw [← hu_1] at hW
  refine lv_aload_n X.1 X.2.1 dX10_request_10 rfl (lv_at hl 0 rfl) ?_
  refine zr_get (v := .ref (ad 20)) X hW fs_X10_59_9 dX10_request_11 (zm_s0 hM) rfl rfl rfl ?_
  refine lv_iload_n X.1 X.2.1 dX10_request_14 rfl (lv_at hl 1 rfl) ?_
  refine lv_aload_n X.1 X.2.1 dX10_request_15 rfl (lv_at hl 0 rfl) ?_
  refine zr_get (v := .int ((u 0 19) + 1)) X hW fs_X10_109_9 dX10_request_16 (zm_s0 hM) rfl rfl (congrArg Value.int (show u_1 0 19 = (u 0 19) + 1 from (by rw [hu_1]; exact zm_ws _ _ _ _))) ?_
  refine zr_iast X hW dX10_request_19 (zm_s20 hM) rfl rfl (zi_vp (by omega)) (fun H locs hW => ?_)
  have hW : zw_St Y N0 ad sh (zm_mix (zm_w u_1 20 (zn a) ((u 0 19) + 1)) g0) s H locs := zm_st (by decide) hW
  obtain ⟨u_2, hu_2⟩ : ∃ z : zm_T, z = zm_w u_1 20 (zn a) ((u 0 19) + 1) := ⟨_, rfl⟩
  rw [← hu_2] at hW
  refine lv_aload_n X.1 X.2.1 dX10_request_20 rfl (lv_at hl 0 rfl) ?_
  refine zr_get (v := .ref (ad 21)) X hW fs_X10_62_9 dX10_request_21 (zm_s0 hM) rfl rfl rfl ?_
  refine lv_iload_n X.1 X.2.1 dX10_request_24 rfl (lv_at hl 1 rfl) ?_
  refine lv_iload_n X.1 X.2.1 dX10_request_25 rfl (lv_at hl 2 rfl) ?_
  refine zr_iast X hW dX10_request_26 (zm_s21 hM) rfl rfl (zi_vp (by omega)) (fun H locs hW => ?_)
  have hW : zw_St Y N0 ad sh (zm_mix (zm_w u_2 21 (zn a) t) g0) s H locs := zm_st (by decide) hW
  obtain ⟨u_3, hu_3⟩ : ∃ z : zm_T, z = zm_w u_2 21 (zn a) t := ⟨_, rfl⟩
  rw [← hu_3] at hW
  refine lv_aload_n X.1 X.2.1 dX10_request_27 rfl (lv_at hl 0 rfl) ?_
  refine zr_get (v := .ref (ad 22)) X hW fs_X10_65_9 dX10_request_28 (zm_s0 hM) rfl rfl rfl ?_
  refine lv_iload_n X.1 X.2.1 dX10_request_31 rfl (lv_at hl 1 rfl) ?_
  refine lv_iload_n X.1 X.2.1 dX10_request_32 rfl (lv_at hl 3 rfl) ?_
  refine zr_iast X hW dX10_request_33 (zm_s22 hM) rfl rfl (zi_vp (by omega)) (fun H locs hW => ?_)
  have hW : zw_St Y N0 ad sh (zm_mix (zm_w u_3 22 (zn a) key) g0) s H locs := zm_st (by decide) hW
  obtain ⟨u_4, hu_4⟩ : ∃ z : zm_T, z = zm_w u_3 22 (zn a) key := ⟨_, rfl⟩
  rw [← hu_4] at hW
  have e9 : u_4 = zs_rq u (zn a) t key := by rw [hu_4, hu_3, hu_2, hu_1]; rfl
  exact zr_vret X hW dX10_request_34 (Nat.le_refl _) (Nat.le_refl _) ⟨rfl, rfl, rfl, by rw [e9]⟩

theorem zs_mk8 (u : zm_T) (v : Nat → Int32) : zs_mk u v 0 8 = u 0 8 + 1 := rfl
theorem zs_mk0k (u : zm_T) (v : Nat → Int32) {k : Nat} (h : k ≠ 8) : zs_mk u v 0 k = u 0 k := by simp [zs_mk, h]
theorem zs_mkr (u : zm_T) (v : Nat → Int32) {r k : Nat} (h : r ≠ 0 ∧ ¬ (9 ≤ r ∧ r ≤ 18)) : zs_mk u v r k = u r k := by
  unfold zs_mk
  rw [if_neg (fun q => h.1 q.1), if_neg (fun q => h.2 q.2)]
theorem zs_mkw' {u : zm_T} {v : Nat → Int32} {r0 n : Nat} (h : 9 ≤ r0 ∧ r0 ≤ 18) (hn : n = zn (u 0 8)) (x : Int32) : zm_w (zs_mk u v) r0 n x = zs_mk u (va_up v r0 x) := by
  subst hn
  exact zs_mkw u v h x
