set_option maxHeartbeats 4000000 in
set_option maxRecDepth 100000 in
theorem c_X3_sameAs (l : Launch) (Y : zw_Y) (N0 : Nat) (ad : Nat → Nat) (sh : Nat → Option zw_Sh) (g u : zm_T) (a b : Nat) (ha : ((sh (200 + 2 * a) = some (.inl (1, [none, none, none, none, some (some (201 + 2 * a))]))) ∧ sh (201 + 2 * a) = some (.inl (3, [none, none, none])) ∧ g (200 + 2 * a) 0 = u 10 a ∧ g (200 + 2 * a) 1 = u 11 a ∧ g (200 + 2 * a) 2 = u 13 a ∧ g (200 + 2 * a) 3 = u 14 a ∧ g (201 + 2 * a) 0 = u 16 a ∧ g (201 + 2 * a) 1 = u 17 a ∧ g (201 + 2 * a) 2 = u 18 a)) (hb : ((sh (200 + 2 * b) = some (.inl (1, [none, none, none, none, some (some (201 + 2 * b))]))) ∧ sh (201 + 2 * b) = some (.inl (3, [none, none, none])) ∧ g (200 + 2 * b) 0 = u 10 b ∧ g (200 + 2 * b) 1 = u 11 b ∧ g (200 + 2 * b) 2 = u 13 b ∧ g (200 + 2 * b) 3 = u 14 b ∧ g (201 + 2 * b) 0 = u 16 b ∧ g (201 + 2 * b) 1 = u 17 b ∧ g (201 + 2 * b) 2 = u 18 b)) : zw_Met l Y N0 yX3_sameAs cX3_sameAs 2 (some .boolean) 0 0 0 0 ad sh g [.ref (ad (201 + 2 * a)), .ref (ad (201 + 2 * b))] (zp_B ad sh g ((u 16 a).toInt = (u 16 b).toInt ∧ (u 17 a).toInt = (u 17 b).toInt ∧ (u 18 a).toInt = (u 18 b).toInt)) := by
  refine zw_meth (by decide) (Nat.le_of_ble_eq_true rfl) ?_
  intro p e s m below meth c ls X hnm hl hW
  have hl : lv_has ls 2 [(0, .ref (ad (201 + 2 * a))), (1, .ref (ad (201 + 2 * b)))] := hl
  refine lv_aload_n X.1 X.2.1 dX3_sameAs_0 rfl (lv_at hl 0 rfl) ?_
  refine zr_get (r := (201 + 2 * a)) (v := .int (u 16 a)) X hW fs_X3_7_3 dX3_sameAs_1 ha.2.1 rfl rfl (congrArg Value.int ha.2.2.2.2.2.2.1) ?_
  refine lv_aload_n X.1 X.2.1 dX3_sameAs_4 rfl (lv_at hl 1 rfl) ?_
  refine zr_get (r := (201 + 2 * b)) (v := .int (u 16 b)) X hW fs_X3_7_3 dX3_sameAs_5 hb.2.1 rfl rfl (congrArg Value.int hb.2.2.2.2.2.2.1) ?_
  refine zr_icmp_ne (a := (u 16 a).toInt) (b := (u 16 b).toInt) (tgt := 37) X dX3_sameAs_8 (by decide) rfl rfl (fun c_1 => ?_) (fun c_1 => ?_)
  · refine lv_iconst (v := 0) X.1 X.2.1 dX3_sameAs_37 (by decide) ?_
    exact zr_zret X hW dX3_sameAs_38 (Nat.le_refl _) (Nat.le_refl _) rfl ⟨rfl, rfl, rfl, Or.inr ⟨by omega, rfl⟩⟩
  · refine lv_aload_n X.1 X.2.1 dX3_sameAs_11 rfl (lv_at hl 0 rfl) ?_
    refine zr_get (r := (201 + 2 * a)) (v := .int (u 17 a)) X hW fs_X3_13_3 dX3_sameAs_12 ha.2.1 rfl rfl (congrArg Value.int ha.2.2.2.2.2.2.2.1) ?_
    refine lv_aload_n X.1 X.2.1 dX3_sameAs_15 rfl (lv_at hl 1 rfl) ?_
    refine zr_get (r := (201 + 2 * b)) (v := .int (u 17 b)) X hW fs_X3_13_3 dX3_sameAs_16 hb.2.1 rfl rfl (congrArg Value.int hb.2.2.2.2.2.2.2.1) ?_
    refine zr_icmp_ne (a := (u 17 a).toInt) (b := (u 17 b).toInt) (tgt := 37) X dX3_sameAs_19 (by decide) rfl rfl (fun c_2 => ?_) (fun c_2 => ?_)
    · refine lv_iconst (v := 0) X.1 X.2.1 dX3_sameAs_37 (by decide) ?_
      exact zr_zret X hW dX3_sameAs_38 (Nat.le_refl _) (Nat.le_refl _) rfl ⟨rfl, rfl, rfl, Or.inr ⟨by omega, rfl⟩⟩
    · refine lv_aload_n X.1 X.2.1 dX3_sameAs_22 rfl (lv_at hl 0 rfl) ?_
      refine zr_get (r := (201 + 2 * a)) (v := .int (u 18 a)) X hW fs_X3_16_3 dX3_sameAs_23 ha.2.1 rfl rfl (congrArg Value.int ha.2.2.2.2.2.2.2.2) ?_
      refine lv_aload_n X.1 X.2.1 dX3_sameAs_26 rfl (lv_at hl 1 rfl) ?_
      refine zr_get (r := (201 + 2 * b)) (v := .int (u 18 b)) X hW fs_X3_16_3 dX3_sameAs_27 hb.2.1 rfl rfl (congrArg Value.int hb.2.2.2.2.2.2.2.2) ?_
      refine zr_icmp_ne (a := (u 18 a).toInt) (b := (u 18 b).toInt) (tgt := 37) X dX3_sameAs_30 (by decide) rfl rfl (fun c_3 => ?_) (fun c_3 => ?_)
      · refine lv_iconst (v := 0) X.1 X.2.1 dX3_sameAs_37 (by decide) ?_
        exact zr_zret X hW dX3_sameAs_38 (Nat.le_refl _) (Nat.le_refl _) rfl ⟨rfl, rfl, rfl, Or.inr ⟨by omega, rfl⟩⟩
      · refine lv_iconst (v := 1) X.1 X.2.1 dX3_sameAs_33 (by decide) ?_
        refine lv_goto (tgt := 38) X.1 X.2.1 dX3_sameAs_34 (by decide) ?_
        exact zr_zret X hW dX3_sameAs_38 (Nat.le_refl _) (Nat.le_refl _) rfl ⟨rfl, rfl, rfl, Or.inl ⟨by omega, rfl⟩⟩

set_option maxHeartbeats 4000000 in
set_option maxRecDepth 100000 in
theorem c_X1_sameAs (l : Launch) (Y : zw_Y) (N0 : Nat) (ad : Nat → Nat) (sh : Nat → Option zw_Sh) (g u : zm_T) (a b : Nat) (ha : ((sh (200 + 2 * a) = some (.inl (1, [none, none, none, none, some (some (201 + 2 * a))]))) ∧ sh (201 + 2 * a) = some (.inl (3, [none, none, none])) ∧ g (200 + 2 * a) 0 = u 10 a ∧ g (200 + 2 * a) 1 = u 11 a ∧ g (200 + 2 * a) 2 = u 13 a ∧ g (200 + 2 * a) 3 = u 14 a ∧ g (201 + 2 * a) 0 = u 16 a ∧ g (201 + 2 * a) 1 = u 17 a ∧ g (201 + 2 * a) 2 = u 18 a)) (hb : ((sh (200 + 2 * b) = some (.inl (1, [none, none, none, none, some (some (201 + 2 * b))]))) ∧ sh (201 + 2 * b) = some (.inl (3, [none, none, none])) ∧ g (200 + 2 * b) 0 = u 10 b ∧ g (200 + 2 * b) 1 = u 11 b ∧ g (200 + 2 * b) 2 = u 13 b ∧ g (200 + 2 * b) 3 = u 14 b ∧ g (201 + 2 * b) 0 = u 16 b ∧ g (201 + 2 * b) 1 = u 17 b ∧ g (201 + 2 * b) 2 = u 18 b)) : zw_Met l Y N0 yX1_sameAs cX1_sameAs 2 (some .boolean) 1 21 0 0 ad sh g [.ref (ad (200 + 2 * a)), .ref (ad (200 + 2 * b))] (zp_B ad sh g (zs_same u a b)) := by
  refine zw_meth (by decide) (Nat.le_of_ble_eq_true rfl) ?_
  intro p e s m below meth c ls X hnm hl hW
  have hl : lv_has ls 2 [(0, .ref (ad (200 + 2 * a))), (1, .ref (ad (200 + 2 * b)))] := hl
  refine lv_aload_n X.1 X.2.1 dX1_sameAs_0 rfl (lv_at hl 0 rfl) ?_
  refine zr_get (r := (200 + 2 * a)) (v := .int (u 10 a)) X hW fs_X1_25_1 dX1_sameAs_1 ha.1 rfl rfl (congrArg Value.int ha.2.2.1) ?_
  refine lv_aload_n X.1 X.2.1 dX1_sameAs_4 rfl (lv_at hl 1 rfl) ?_
  refine zr_get (r := (200 + 2 * b)) (v := .int (u 10 b)) X hW fs_X1_25_1 dX1_sameAs_5 hb.1 rfl rfl (congrArg Value.int hb.2.2.1) ?_
  refine zr_icmp_ne (a := (u 10 a).toInt) (b := (u 10 b).toInt) (tgt := 62) X dX1_sameAs_8 (by decide) rfl rfl (fun c_1 => ?_) (fun c_1 => ?_)
  · refine lv_iconst (v := 0) X.1 X.2.1 dX1_sameAs_62 (by decide) ?_
    exact zr_zret X hW dX1_sameAs_63 (Nat.le_refl _) (Nat.le_refl _) rfl ⟨rfl, rfl, rfl, Or.inr ⟨by omega, rfl⟩⟩
  · refine lv_aload_n X.1 X.2.1 dX1_sameAs_11 rfl (lv_at hl 0 rfl) ?_
    refine zr_get (r := (200 + 2 * a)) (v := .int (u 11 a)) X hW fs_X1_9_1 dX1_sameAs_12 ha.1 rfl rfl (congrArg Value.int ha.2.2.2.1) ?_
    refine lv_aload_n X.1 X.2.1 dX1_sameAs_15 rfl (lv_at hl 1 rfl) ?_
    refine zr_get (r := (200 + 2 * b)) (v := .int (u 11 b)) X hW fs_X1_9_1 dX1_sameAs_16 hb.1 rfl rfl (congrArg Value.int hb.2.2.2.1) ?_
    refine zr_icmp_ne (a := (u 11 a).toInt) (b := (u 11 b).toInt) (tgt := 62) X dX1_sameAs_19 (by decide) rfl rfl (fun c_2 => ?_) (fun c_2 => ?_)
    · refine lv_iconst (v := 0) X.1 X.2.1 dX1_sameAs_62 (by decide) ?_
      exact zr_zret X hW dX1_sameAs_63 (Nat.le_refl _) (Nat.le_refl _) rfl ⟨rfl, rfl, rfl, Or.inr ⟨by omega, rfl⟩⟩
    · refine lv_aload_n X.1 X.2.1 dX1_sameAs_22 rfl (lv_at hl 0 rfl) ?_
      refine zr_get (r := (200 + 2 * a)) (v := .int (u 13 a)) X hW fs_X1_15_1 dX1_sameAs_23 ha.1 rfl rfl (congrArg Value.int ha.2.2.2.2.1) ?_
      refine lv_aload_n X.1 X.2.1 dX1_sameAs_26 rfl (lv_at hl 1 rfl) ?_
      refine zr_get (r := (200 + 2 * b)) (v := .int (u 13 b)) X hW fs_X1_15_1 dX1_sameAs_27 hb.1 rfl rfl (congrArg Value.int hb.2.2.2.2.1) ?_
      refine zr_icmp_ne (a := (u 13 a).toInt) (b := (u 13 b).toInt) (tgt := 62) X dX1_sameAs_30 (by decide) rfl rfl (fun c_3 => ?_) (fun c_3 => ?_)
      · refine lv_iconst (v := 0) X.1 X.2.1 dX1_sameAs_62 (by decide) ?_
        exact zr_zret X hW dX1_sameAs_63 (Nat.le_refl _) (Nat.le_refl _) rfl ⟨rfl, rfl, rfl, Or.inr ⟨by omega, rfl⟩⟩
      · refine lv_aload_n X.1 X.2.1 dX1_sameAs_33 rfl (lv_at hl 0 rfl) ?_
        refine zr_get (r := (200 + 2 * a)) (v := .int (u 14 a)) X hW fs_X1_18_1 dX1_sameAs_34 ha.1 rfl rfl (congrArg Value.int ha.2.2.2.2.2.1) ?_
        refine lv_aload_n X.1 X.2.1 dX1_sameAs_37 rfl (lv_at hl 1 rfl) ?_
        refine zr_get (r := (200 + 2 * b)) (v := .int (u 14 b)) X hW fs_X1_18_1 dX1_sameAs_38 hb.1 rfl rfl (congrArg Value.int hb.2.2.2.2.2.1) ?_
        refine zr_icmp_ne (a := (u 14 a).toInt) (b := (u 14 b).toInt) (tgt := 62) X dX1_sameAs_41 (by decide) rfl rfl (fun c_4 => ?_) (fun c_4 => ?_)
        · refine lv_iconst (v := 0) X.1 X.2.1 dX1_sameAs_62 (by decide) ?_
          exact zr_zret X hW dX1_sameAs_63 (Nat.le_refl _) (Nat.le_refl _) rfl ⟨rfl, rfl, rfl, Or.inr ⟨by omega, rfl⟩⟩
        · refine lv_aload_n X.1 X.2.1 dX1_sameAs_44 rfl (lv_at hl 0 rfl) ?_
          refine zr_get (r := (200 + 2 * a)) (v := .ref (ad ((201 + 2 * a)))) X hW fs_X1_21_1 dX1_sameAs_45 ha.1 rfl rfl rfl ?_
          refine lv_aload_n X.1 X.2.1 dX1_sameAs_48 rfl (lv_at hl 1 rfl) ?_
          refine zr_get (r := (200 + 2 * b)) (v := .ref (ad ((201 + 2 * b)))) X hW fs_X1_21_1 dX1_sameAs_49 hb.1 rfl rfl rfl ?_
          refine zr_callV (As := [.ref (ad ((201 + 2 * b)))]) (rest := []) X hW hl.1 md_X3_sameAs ms_X1_28 dX1_sameAs_52 ha.2.1 rfl rfl rfl rfl (Nat.le_of_ble_eq_true rfl) ⟨Nat.le_of_ble_eq_true rfl, Nat.le_of_ble_eq_true rfl⟩ ⟨Nat.le_of_ble_eq_true rfl, Nat.le_of_ble_eq_true rfl⟩ (c_X3_sameAs l Y N0 ad sh g u a b ha hb) (fun v9 ad9 sh9 g9 H locs hp hW => ?_)
          rcases hp with ⟨rfl, rfl, rfl, ⟨h_5, h9⟩ | ⟨h_5, h9⟩⟩
          · subst h9
            have h_5 : (u 16 a).toInt = (u 16 b).toInt ∧ (u 17 a).toInt = (u 17 b).toInt ∧ (u 18 a).toInt = (u 18 b).toInt := h_5
            refine zr_if_eq (a := 1) (tgt := 62) X dX1_sameAs_55 (by decide) (by decide) (fun c9 => absurd c9 (by decide)) (fun _ => ?_)
            refine lv_iconst (v := 1) X.1 X.2.1 dX1_sameAs_58 (by decide) ?_
            refine lv_goto (tgt := 63) X.1 X.2.1 dX1_sameAs_59 (by decide) ?_
            exact zr_zret X hW dX1_sameAs_63 (Nat.le_refl _) (Nat.le_refl _) rfl ⟨rfl, rfl, rfl, Or.inl ⟨by omega, rfl⟩⟩
          · subst h9
            have h_5 : ¬ ((u 16 a).toInt = (u 16 b).toInt ∧ (u 17 a).toInt = (u 17 b).toInt ∧ (u 18 a).toInt = (u 18 b).toInt) := h_5
            refine zr_if_eq (a := 0) (tgt := 62) X dX1_sameAs_55 (by decide) (by decide) (fun _ => ?_) (fun c9 => absurd c9 (by decide))
            refine lv_iconst (v := 0) X.1 X.2.1 dX1_sameAs_62 (by decide) ?_
            exact zr_zret X hW dX1_sameAs_63 (Nat.le_refl _) (Nat.le_refl _) rfl ⟨rfl, rfl, rfl, Or.inr ⟨by omega, rfl⟩⟩

set_option maxHeartbeats 4000000 in
set_option maxRecDepth 100000 in
theorem c_X0_permits (l : Launch) (Y : zw_Y) (N0 : Nat) (ad : Nat → Nat) (sh : Nat → Option zw_Sh) (g u : zm_T) (hS : zc_S sh) (hN : zc_N g u) (hB : ∀ i : Nat, i < 12 → -1 ≤ (u 5 i).toInt) (cn : Int32) (cl : Nat) (hq : ((sh (200 + 2 * cl) = some (.inl (1, [none, none, none, none, some (some (201 + 2 * cl))]))) ∧ sh (201 + 2 * cl) = some (.inl (3, [none, none, none])) ∧ g (200 + 2 * cl) 0 = u 10 cl ∧ g (200 + 2 * cl) 1 = u 11 cl ∧ g (200 + 2 * cl) 2 = u 13 cl ∧ g (200 + 2 * cl) 3 = u 14 cl ∧ g (201 + 2 * cl) 0 = u 16 cl ∧ g (201 + 2 * cl) 1 = u 17 cl ∧ g (201 + 2 * cl) 2 = u 18 cl)) (hf : 0 ≤ (u 17 cl).toInt ∧ (u 17 cl).toInt ≤ 2) : zw_Met l Y N0 yX0_permits cX0_permits 3 (some .boolean) 2 41 0 0 ad sh g [.ref (ad 103), .int cn, .ref (ad (201 + 2 * cl))] (zp_B ad sh g (zs_bk u cn ∧ (u 7 (3 * zn cn + zn (u 17 cl)) &&& u 16 cl).toInt = (u 16 cl).toInt)) := by
  refine zw_meth (by decide) (Nat.le_of_ble_eq_true rfl) ?_
  intro p e s m below meth c ls X hnm hl hW
  have hl : lv_has ls 3 [(0, .ref (ad 103)), (1, .int cn), (2, .ref (ad (201 + 2 * cl)))] := hl
  have hN0 := hN
  refine lv_aload_n X.1 X.2.1 dX0_permits_0 rfl (lv_at hl 0 rfl) ?_
  refine lv_iload_n X.1 X.2.1 dX0_permits_1 rfl (lv_at hl 1 rfl) ?_
  refine zr_callV (As := [.int cn]) (rest := []) X hW hl.1 md_X0_holds ms_X0_27 dX0_permits_2 (zc_s103 hS) rfl rfl rfl rfl (Nat.le_of_ble_eq_true rfl) ⟨Nat.le_of_ble_eq_true rfl, Nat.le_of_ble_eq_true rfl⟩ ⟨Nat.le_of_ble_eq_true rfl, Nat.le_of_ble_eq_true rfl⟩ (c_X0_holds_b l Y N0 ad sh g u hS hN hB cn) (fun v9 ad9 sh9 g9 H locs hp hW => ?_)
  rcases hp with ⟨rfl, rfl, rfl, ⟨h_1, h9⟩ | ⟨h_1, h9⟩⟩
  · subst h9
    have h_1 : zs_bk u cn := h_1
    refine zr_if_eq (a := 1) (tgt := 35) X dX0_permits_5 (by decide) (by decide) (fun c9 => absurd c9 (by decide)) (fun _ => ?_)
    obtain hc | hc | hc | hc | hc | hc : cn.toInt = 0 ∨ cn.toInt = 1 ∨ cn.toInt = 2 ∨ cn.toInt = 3 ∨ cn.toInt = 4 ∨ cn.toInt = 5 := by omega
    · have hc : cn = 0 := zi_ext hc
      subst hc
      have hh : zs_bk u 0 := h_1
      refine lv_aload_n X.1 X.2.1 dX0_permits_8 rfl (lv_at hl 0 rfl) ?_
      refine zr_get (r := 103) (v := .ref (ad 111)) X hW fs_X0_20_0 dX0_permits_9 (zc_s103 hS) rfl rfl rfl ?_
      refine lv_iload_n X.1 X.2.1 dX0_permits_12 rfl (lv_at hl 1 rfl) ?_
      refine zr_aald (r := 111) (v := .ref (ad 121)) X hW dX0_permits_13 (zc_s111 hS) rfl rfl rfl (zi_vp (by decide)) rfl ?_
      refine lv_aload_n X.1 X.2.1 dX0_permits_14 rfl (lv_at hl 2 rfl) ?_
      refine zr_get (r := (201 + 2 * cl)) (v := .int (u 17 cl)) X hW fs_X0_30_3 dX0_permits_15 hq.2.1 rfl rfl (congrArg Value.int hq.2.2.2.2.2.2.2.1) ?_
      refine zr_iald (r := 121) (v := u 7 (0 + (zn (u 17 cl)))) X hW dX0_permits_18 (zc_s121 hS) rfl rfl (zi_vp (by omega)) (hN0 _ _ _ _ (zc_l121 (zi_nl (by omega) (by decide)))) ?_
      refine lv_aload_n X.1 X.2.1 dX0_permits_19 rfl (lv_at hl 2 rfl) ?_
      refine zr_get (r := (201 + 2 * cl)) (v := .int (u 16 cl)) X hW fs_X0_36_3 dX0_permits_20 hq.2.1 rfl rfl (congrArg Value.int hq.2.2.2.2.2.2.1) ?_
      refine lv_iand X.1 X.2.1 dX0_permits_23 ?_
      refine lv_aload_n X.1 X.2.1 dX0_permits_24 rfl (lv_at hl 2 rfl) ?_
      refine zr_get (r := (201 + 2 * cl)) (v := .int (u 16 cl)) X hW fs_X0_36_3 dX0_permits_25 hq.2.1 rfl rfl (congrArg Value.int hq.2.2.2.2.2.2.1) ?_
      refine zr_icmp_ne (a := ((u 7 (0 + (zn (u 17 cl)))) &&& (u 16 cl)).toInt) (b := (u 16 cl).toInt) (tgt := 35) X dX0_permits_28 (by decide) rfl rfl (fun c_2 => ?_) (fun c_2 => ?_)
      · refine lv_iconst (v := 0) X.1 X.2.1 dX0_permits_35 (by decide) ?_
        exact zr_zret X hW dX0_permits_36 (Nat.le_refl _) (Nat.le_refl _) rfl ⟨rfl, rfl, rfl, Or.inr ⟨fun q9 => c_2 q9.2, rfl⟩⟩
      · refine lv_iconst (v := 1) X.1 X.2.1 dX0_permits_31 (by decide) ?_
        refine lv_goto (tgt := 36) X.1 X.2.1 dX0_permits_32 (by decide) ?_
        exact zr_zret X hW dX0_permits_36 (Nat.le_refl _) (Nat.le_refl _) rfl ⟨rfl, rfl, rfl, Or.inl ⟨⟨hh, c_2⟩, rfl⟩⟩
    · have hc : cn = 1 := zi_ext hc
      subst hc
      have hh : zs_bk u 1 := h_1
      refine lv_aload_n X.1 X.2.1 dX0_permits_8 rfl (lv_at hl 0 rfl) ?_
      refine zr_get (r := 103) (v := .ref (ad 111)) X hW fs_X0_20_0 dX0_permits_9 (zc_s103 hS) rfl rfl rfl ?_
      refine lv_iload_n X.1 X.2.1 dX0_permits_12 rfl (lv_at hl 1 rfl) ?_
      refine zr_aald (r := 111) (v := .ref (ad 122)) X hW dX0_permits_13 (zc_s111 hS) rfl rfl rfl (zi_vp (by decide)) rfl ?_
      refine lv_aload_n X.1 X.2.1 dX0_permits_14 rfl (lv_at hl 2 rfl) ?_
      refine zr_get (r := (201 + 2 * cl)) (v := .int (u 17 cl)) X hW fs_X0_30_3 dX0_permits_15 hq.2.1 rfl rfl (congrArg Value.int hq.2.2.2.2.2.2.2.1) ?_
      refine zr_iald (r := 122) (v := u 7 (3 + (zn (u 17 cl)))) X hW dX0_permits_18 (zc_s122 hS) rfl rfl (zi_vp (by omega)) (hN0 _ _ _ _ (zc_l122 (zi_nl (by omega) (by decide)))) ?_
      refine lv_aload_n X.1 X.2.1 dX0_permits_19 rfl (lv_at hl 2 rfl) ?_
      refine zr_get (r := (201 + 2 * cl)) (v := .int (u 16 cl)) X hW fs_X0_36_3 dX0_permits_20 hq.2.1 rfl rfl (congrArg Value.int hq.2.2.2.2.2.2.1) ?_
      refine lv_iand X.1 X.2.1 dX0_permits_23 ?_
      refine lv_aload_n X.1 X.2.1 dX0_permits_24 rfl (lv_at hl 2 rfl) ?_
      refine zr_get (r := (201 + 2 * cl)) (v := .int (u 16 cl)) X hW fs_X0_36_3 dX0_permits_25 hq.2.1 rfl rfl (congrArg Value.int hq.2.2.2.2.2.2.1) ?_
      refine zr_icmp_ne (a := ((u 7 (3 + (zn (u 17 cl)))) &&& (u 16 cl)).toInt) (b := (u 16 cl).toInt) (tgt := 35) X dX0_permits_28 (by decide) rfl rfl (fun c_3 => ?_) (fun c_3 => ?_)
      · refine lv_iconst (v := 0) X.1 X.2.1 dX0_permits_35 (by decide) ?_
        exact zr_zret X hW dX0_permits_36 (Nat.le_refl _) (Nat.le_refl _) rfl ⟨rfl, rfl, rfl, Or.inr ⟨fun q9 => c_3 q9.2, rfl⟩⟩
      · refine lv_iconst (v := 1) X.1 X.2.1 dX0_permits_31 (by decide) ?_
        refine lv_goto (tgt := 36) X.1 X.2.1 dX0_permits_32 (by decide) ?_
        exact zr_zret X hW dX0_permits_36 (Nat.le_refl _) (Nat.le_refl _) rfl ⟨rfl, rfl, rfl, Or.inl ⟨⟨hh, c_3⟩, rfl⟩⟩
    · have hc : cn = 2 := zi_ext hc
      subst hc
      have hh : zs_bk u 2 := h_1
      refine lv_aload_n X.1 X.2.1 dX0_permits_8 rfl (lv_at hl 0 rfl) ?_
      refine zr_get (r := 103) (v := .ref (ad 111)) X hW fs_X0_20_0 dX0_permits_9 (zc_s103 hS) rfl rfl rfl ?_
      refine lv_iload_n X.1 X.2.1 dX0_permits_12 rfl (lv_at hl 1 rfl) ?_
      refine zr_aald (r := 111) (v := .ref (ad 123)) X hW dX0_permits_13 (zc_s111 hS) rfl rfl rfl (zi_vp (by decide)) rfl ?_
      refine lv_aload_n X.1 X.2.1 dX0_permits_14 rfl (lv_at hl 2 rfl) ?_
      refine zr_get (r := (201 + 2 * cl)) (v := .int (u 17 cl)) X hW fs_X0_30_3 dX0_permits_15 hq.2.1 rfl rfl (congrArg Value.int hq.2.2.2.2.2.2.2.1) ?_
      refine zr_iald (r := 123) (v := u 7 (6 + (zn (u 17 cl)))) X hW dX0_permits_18 (zc_s123 hS) rfl rfl (zi_vp (by omega)) (hN0 _ _ _ _ (zc_l123 (zi_nl (by omega) (by decide)))) ?_
      refine lv_aload_n X.1 X.2.1 dX0_permits_19 rfl (lv_at hl 2 rfl) ?_
      refine zr_get (r := (201 + 2 * cl)) (v := .int (u 16 cl)) X hW fs_X0_36_3 dX0_permits_20 hq.2.1 rfl rfl (congrArg Value.int hq.2.2.2.2.2.2.1) ?_
      refine lv_iand X.1 X.2.1 dX0_permits_23 ?_
      refine lv_aload_n X.1 X.2.1 dX0_permits_24 rfl (lv_at hl 2 rfl) ?_
      refine zr_get (r := (201 + 2 * cl)) (v := .int (u 16 cl)) X hW fs_X0_36_3 dX0_permits_25 hq.2.1 rfl rfl (congrArg Value.int hq.2.2.2.2.2.2.1) ?_
      refine zr_icmp_ne (a := ((u 7 (6 + (zn (u 17 cl)))) &&& (u 16 cl)).toInt) (b := (u 16 cl).toInt) (tgt := 35) X dX0_permits_28 (by decide) rfl rfl (fun c_4 => ?_) (fun c_4 => ?_)
      · refine lv_iconst (v := 0) X.1 X.2.1 dX0_permits_35 (by decide) ?_
        exact zr_zret X hW dX0_permits_36 (Nat.le_refl _) (Nat.le_refl _) rfl ⟨rfl, rfl, rfl, Or.inr ⟨fun q9 => c_4 q9.2, rfl⟩⟩
      · refine lv_iconst (v := 1) X.1 X.2.1 dX0_permits_31 (by decide) ?_
        refine lv_goto (tgt := 36) X.1 X.2.1 dX0_permits_32 (by decide) ?_
        exact zr_zret X hW dX0_permits_36 (Nat.le_refl _) (Nat.le_refl _) rfl ⟨rfl, rfl, rfl, Or.inl ⟨⟨hh, c_4⟩, rfl⟩⟩
    · have hc : cn = 3 := zi_ext hc
      subst hc
      have hh : zs_bk u 3 := h_1
      refine lv_aload_n X.1 X.2.1 dX0_permits_8 rfl (lv_at hl 0 rfl) ?_
      refine zr_get (r := 103) (v := .ref (ad 111)) X hW fs_X0_20_0 dX0_permits_9 (zc_s103 hS) rfl rfl rfl ?_
      refine lv_iload_n X.1 X.2.1 dX0_permits_12 rfl (lv_at hl 1 rfl) ?_
      refine zr_aald (r := 111) (v := .ref (ad 124)) X hW dX0_permits_13 (zc_s111 hS) rfl rfl rfl (zi_vp (by decide)) rfl ?_
      refine lv_aload_n X.1 X.2.1 dX0_permits_14 rfl (lv_at hl 2 rfl) ?_
      refine zr_get (r := (201 + 2 * cl)) (v := .int (u 17 cl)) X hW fs_X0_30_3 dX0_permits_15 hq.2.1 rfl rfl (congrArg Value.int hq.2.2.2.2.2.2.2.1) ?_
      refine zr_iald (r := 124) (v := u 7 (9 + (zn (u 17 cl)))) X hW dX0_permits_18 (zc_s124 hS) rfl rfl (zi_vp (by omega)) (hN0 _ _ _ _ (zc_l124 (zi_nl (by omega) (by decide)))) ?_
      refine lv_aload_n X.1 X.2.1 dX0_permits_19 rfl (lv_at hl 2 rfl) ?_
      refine zr_get (r := (201 + 2 * cl)) (v := .int (u 16 cl)) X hW fs_X0_36_3 dX0_permits_20 hq.2.1 rfl rfl (congrArg Value.int hq.2.2.2.2.2.2.1) ?_
      refine lv_iand X.1 X.2.1 dX0_permits_23 ?_
      refine lv_aload_n X.1 X.2.1 dX0_permits_24 rfl (lv_at hl 2 rfl) ?_
      refine zr_get (r := (201 + 2 * cl)) (v := .int (u 16 cl)) X hW fs_X0_36_3 dX0_permits_25 hq.2.1 rfl rfl (congrArg Value.int hq.2.2.2.2.2.2.1) ?_
      refine zr_icmp_ne (a := ((u 7 (9 + (zn (u 17 cl)))) &&& (u 16 cl)).toInt) (b := (u 16 cl).toInt) (tgt := 35) X dX0_permits_28 (by decide) rfl rfl (fun c_5 => ?_) (fun c_5 => ?_)
      · refine lv_iconst (v := 0) X.1 X.2.1 dX0_permits_35 (by decide) ?_
        exact zr_zret X hW dX0_permits_36 (Nat.le_refl _) (Nat.le_refl _) rfl ⟨rfl, rfl, rfl, Or.inr ⟨fun q9 => c_5 q9.2, rfl⟩⟩
      · refine lv_iconst (v := 1) X.1 X.2.1 dX0_permits_31 (by decide) ?_
        refine lv_goto (tgt := 36) X.1 X.2.1 dX0_permits_32 (by decide) ?_
        exact zr_zret X hW dX0_permits_36 (Nat.le_refl _) (Nat.le_refl _) rfl ⟨rfl, rfl, rfl, Or.inl ⟨⟨hh, c_5⟩, rfl⟩⟩
    · have hc : cn = 4 := zi_ext hc
      subst hc
      have hh : zs_bk u 4 := h_1
      refine lv_aload_n X.1 X.2.1 dX0_permits_8 rfl (lv_at hl 0 rfl) ?_
      refine zr_get (r := 103) (v := .ref (ad 111)) X hW fs_X0_20_0 dX0_permits_9 (zc_s103 hS) rfl rfl rfl ?_
      refine lv_iload_n X.1 X.2.1 dX0_permits_12 rfl (lv_at hl 1 rfl) ?_
      refine zr_aald (r := 111) (v := .ref (ad 125)) X hW dX0_permits_13 (zc_s111 hS) rfl rfl rfl (zi_vp (by decide)) rfl ?_
      refine lv_aload_n X.1 X.2.1 dX0_permits_14 rfl (lv_at hl 2 rfl) ?_
      refine zr_get (r := (201 + 2 * cl)) (v := .int (u 17 cl)) X hW fs_X0_30_3 dX0_permits_15 hq.2.1 rfl rfl (congrArg Value.int hq.2.2.2.2.2.2.2.1) ?_
      refine zr_iald (r := 125) (v := u 7 (12 + (zn (u 17 cl)))) X hW dX0_permits_18 (zc_s125 hS) rfl rfl (zi_vp (by omega)) (hN0 _ _ _ _ (zc_l125 (zi_nl (by omega) (by decide)))) ?_
      refine lv_aload_n X.1 X.2.1 dX0_permits_19 rfl (lv_at hl 2 rfl) ?_
      refine zr_get (r := (201 + 2 * cl)) (v := .int (u 16 cl)) X hW fs_X0_36_3 dX0_permits_20 hq.2.1 rfl rfl (congrArg Value.int hq.2.2.2.2.2.2.1) ?_
      refine lv_iand X.1 X.2.1 dX0_permits_23 ?_
      refine lv_aload_n X.1 X.2.1 dX0_permits_24 rfl (lv_at hl 2 rfl) ?_
      refine zr_get (r := (201 + 2 * cl)) (v := .int (u 16 cl)) X hW fs_X0_36_3 dX0_permits_25 hq.2.1 rfl rfl (congrArg Value.int hq.2.2.2.2.2.2.1) ?_
      refine zr_icmp_ne (a := ((u 7 (12 + (zn (u 17 cl)))) &&& (u 16 cl)).toInt) (b := (u 16 cl).toInt) (tgt := 35) X dX0_permits_28 (by decide) rfl rfl (fun c_6 => ?_) (fun c_6 => ?_)
      · refine lv_iconst (v := 0) X.1 X.2.1 dX0_permits_35 (by decide) ?_
        exact zr_zret X hW dX0_permits_36 (Nat.le_refl _) (Nat.le_refl _) rfl ⟨rfl, rfl, rfl, Or.inr ⟨fun q9 => c_6 q9.2, rfl⟩⟩
      · refine lv_iconst (v := 1) X.1 X.2.1 dX0_permits_31 (by decide) ?_
        refine lv_goto (tgt := 36) X.1 X.2.1 dX0_permits_32 (by decide) ?_
        exact zr_zret X hW dX0_permits_36 (Nat.le_refl _) (Nat.le_refl _) rfl ⟨rfl, rfl, rfl, Or.inl ⟨⟨hh, c_6⟩, rfl⟩⟩
    · have hc : cn = 5 := zi_ext hc
      subst hc
      have hh : zs_bk u 5 := h_1
      refine lv_aload_n X.1 X.2.1 dX0_permits_8 rfl (lv_at hl 0 rfl) ?_
      refine zr_get (r := 103) (v := .ref (ad 111)) X hW fs_X0_20_0 dX0_permits_9 (zc_s103 hS) rfl rfl rfl ?_
      refine lv_iload_n X.1 X.2.1 dX0_permits_12 rfl (lv_at hl 1 rfl) ?_
      refine zr_aald (r := 111) (v := .ref (ad 126)) X hW dX0_permits_13 (zc_s111 hS) rfl rfl rfl (zi_vp (by decide)) rfl ?_
      refine lv_aload_n X.1 X.2.1 dX0_permits_14 rfl (lv_at hl 2 rfl) ?_
      refine zr_get (r := (201 + 2 * cl)) (v := .int (u 17 cl)) X hW fs_X0_30_3 dX0_permits_15 hq.2.1 rfl rfl (congrArg Value.int hq.2.2.2.2.2.2.2.1) ?_
      refine zr_iald (r := 126) (v := u 7 (15 + (zn (u 17 cl)))) X hW dX0_permits_18 (zc_s126 hS) rfl rfl (zi_vp (by omega)) (hN0 _ _ _ _ (zc_l126 (zi_nl (by omega) (by decide)))) ?_
      refine lv_aload_n X.1 X.2.1 dX0_permits_19 rfl (lv_at hl 2 rfl) ?_
      refine zr_get (r := (201 + 2 * cl)) (v := .int (u 16 cl)) X hW fs_X0_36_3 dX0_permits_20 hq.2.1 rfl rfl (congrArg Value.int hq.2.2.2.2.2.2.1) ?_
      refine lv_iand X.1 X.2.1 dX0_permits_23 ?_
      refine lv_aload_n X.1 X.2.1 dX0_permits_24 rfl (lv_at hl 2 rfl) ?_
      refine zr_get (r := (201 + 2 * cl)) (v := .int (u 16 cl)) X hW fs_X0_36_3 dX0_permits_25 hq.2.1 rfl rfl (congrArg Value.int hq.2.2.2.2.2.2.1) ?_
      refine zr_icmp_ne (a := ((u 7 (15 + (zn (u 17 cl)))) &&& (u 16 cl)).toInt) (b := (u 16 cl).toInt) (tgt := 35) X dX0_permits_28 (by decide) rfl rfl (fun c_7 => ?_) (fun c_7 => ?_)
      · refine lv_iconst (v := 0) X.1 X.2.1 dX0_permits_35 (by decide) ?_
        exact zr_zret X hW dX0_permits_36 (Nat.le_refl _) (Nat.le_refl _) rfl ⟨rfl, rfl, rfl, Or.inr ⟨fun q9 => c_7 q9.2, rfl⟩⟩
      · refine lv_iconst (v := 1) X.1 X.2.1 dX0_permits_31 (by decide) ?_
        refine lv_goto (tgt := 36) X.1 X.2.1 dX0_permits_32 (by decide) ?_
        exact zr_zret X hW dX0_permits_36 (Nat.le_refl _) (Nat.le_refl _) rfl ⟨rfl, rfl, rfl, Or.inl ⟨⟨hh, c_7⟩, rfl⟩⟩
  · subst h9
    have h_1 : ¬ (zs_bk u cn) := h_1
    refine zr_if_eq (a := 0) (tgt := 35) X dX0_permits_5 (by decide) (by decide) (fun _ => ?_) (fun c9 => absurd c9 (by decide))
    refine lv_iconst (v := 0) X.1 X.2.1 dX0_permits_35 (by decide) ?_
    exact zr_zret X hW dX0_permits_36 (Nat.le_refl _) (Nat.le_refl _) rfl ⟨rfl, rfl, rfl, Or.inr ⟨fun q9 => h_1 q9.1, rfl⟩⟩

set_option maxHeartbeats 4000000 in
set_option maxRecDepth 100000 in
theorem c_X2_cacheIsFull (l : Launch) (Y : zw_Y) (N0 : Nat) (ad : Nat → Nat) (sh : Nat → Option zw_Sh) (g u : zm_T) (hS : zc_S sh) (hN : zc_N g u) : zw_Met l Y N0 yX2_cacheIsFull cX2_cacheIsFull 1 (some .boolean) 0 0 0 0 ad sh g [.ref (ad 106)] (zp_B ad sh g (12 ≤ (u 0 28).toInt)) := by
  refine zw_meth (by decide) (Nat.le_of_ble_eq_true rfl) ?_
  intro p e s m below meth c ls X hnm hl hW
  have hl : lv_has ls 1 [(0, .ref (ad 106))] := hl
  have hN0 := hN
  refine lv_aload_n X.1 X.2.1 dX2_cacheIsFull_0 rfl (lv_at hl 0 rfl) ?_
  refine zr_get (r := 106) (v := .int (u 0 28)) X hW fs_X2_21_2 dX2_cacheIsFull_1 (zc_s106 hS) rfl rfl (congrArg Value.int (hN0 _ _ _ _ rfl)) ?_
  refine lv_bipush (v := 12) X.1 X.2.1 dX2_cacheIsFull_4 (by decide) ?_
  refine zr_icmp_lt (a := (u 0 28).toInt) (b := 12) (tgt := 13) X dX2_cacheIsFull_6 (by decide) rfl (by decide) (fun c_1 => ?_) (fun c_1 => ?_)
  · refine lv_iconst (v := 0) X.1 X.2.1 dX2_cacheIsFull_13 (by decide) ?_
    exact zr_zret X hW dX2_cacheIsFull_14 (Nat.le_refl _) (Nat.le_refl _) rfl ⟨rfl, rfl, rfl, Or.inr ⟨by omega, rfl⟩⟩
  · refine lv_iconst (v := 1) X.1 X.2.1 dX2_cacheIsFull_9 (by decide) ?_
    refine lv_goto (tgt := 14) X.1 X.2.1 dX2_cacheIsFull_10 (by decide) ?_
    exact zr_zret X hW dX2_cacheIsFull_14 (Nat.le_refl _) (Nat.le_refl _) rfl ⟨rfl, rfl, rfl, Or.inl ⟨by omega, rfl⟩⟩

theorem zs_rept (u : zm_T) (cl : Nat) : ∀ {k n : Nat}, k ≤ n → zs_rep u cl k = true → zs_rep u cl n = true := by
  intro k n h hk
  induction n with
  | zero => rw [Nat.le_zero.mp h] at hk; exact hk
  | succ n ih =>
    by_cases e : k = n + 1
    · rw [← e]; exact hk
    · show (zs_rep u cl n || _) = true
      rw [ih (by omega)]
      rfl
theorem zr_cl {sh : Nat → Option zw_Sh} {g u : zm_T} (hR : zc_R sh g u) {a : Nat} (h : a < zn (u 0 8)) (hk : (u 9 a).toInt = 4) : ((sh (200 + 2 * a) = some (.inl (1, [none, none, none, none, some (some (201 + 2 * a))]))) ∧ sh (201 + 2 * a) = some (.inl (3, [none, none, none])) ∧ g (200 + 2 * a) 0 = u 10 a ∧ g (200 + 2 * a) 1 = u 11 a ∧ g (200 + 2 * a) 2 = u 13 a ∧ g (200 + 2 * a) 3 = u 14 a ∧ g (201 + 2 * a) 0 = u 16 a ∧ g (201 + 2 * a) 1 = u 17 a ∧ g (201 + 2 * a) 2 = u 18 a) := (hR.2.2.2.2.2.1 a h).2.2.2 hk

set_option maxHeartbeats 8000000 in
set_option maxRecDepth 100000 in
theorem lp_X2_hasServed {p : Program} {e : Env} {s : State} {m : MethodId} {below : List Frame} {meth : Method} {c : Code} (l : Launch) (Y : zw_Y) (N0 : Nat) (ad : Nat → Nat) (sh : Nat → Option zw_Sh) (g u : zm_T) (hR : zc_R sh g u) (hI : zm_I u) (cl : Nat) (hcl : cl < zn (u 0 8)) (hk : (u 9 cl).toInt = 4) (X : zw_X p m meth c cX2_hasServed 3 (some .boolean) s ([.ref (ad 106), .ref (ad (200 + 2 * cl))] : List Value).toArray yX2_hasServed.cls Y) (hnm : meth.name = yX2_hasServed.name) :
    ∀ (n : Nat) (i : Nat) (H : Heap) (locs : List Loc) (ls : Array Slot), i ≤ zn (u 0 28) → zn (u 0 28) - i < n → zs_rep u cl i = false → zw_St Y N0 ad sh g s H locs → lv_has ls 3 [(2, .int (nI i)), (0, .ref (ad 106)), (1, .ref (ad (200 + 2 * cl)))] → W p l e ({ frames := 2, cells := 0, slots := 0, locals := 42 } : Room) s m ([.ref (ad 106), .ref (ad (200 + 2 * cl))] : List Value).toArray below meth c H locs 0 0 (MQ below (zw_Q Y N0 (zp_B ad sh g (zs_rep u cl (zn (u 0 28)) = true))) ([.ref (ad 106), .ref (ad (200 + 2 * cl))] : List Value).toArray s 0 0 (fun q => N0 ≤ q)) (F0 m 2 ls []) := by
  have hS := hR.1
  have hN0 := hR.2.1
  have hca := zI_ca hI
  have hse := zI_se hI
  have hz28 := zi_n (u 0 28)
  obtain ⟨cf, hcf, hcf2⟩ := hR.2.2.2.2.2.2.2
  have hq := zr_cl hR hcl hk
  intro n
  induction n with
  | zero => intro i H locs ls h1 h2; omega
  | succ n ih =>
    intro i H locs ls hi hn hrep hW hl
    refine lv_iload_n X.1 X.2.1 dX2_hasServed_2 rfl (lv_at hl 0 rfl) ?_
    refine lv_aload_n X.1 X.2.1 dX2_hasServed_3 rfl (lv_at hl 1 rfl) ?_
    refine zr_get (r := 106) (v := .int (u 0 28)) X hW fs_X2_21_2 dX2_hasServed_4 (zc_s106 hS) rfl rfl (congrArg Value.int (hN0 _ _ _ _ rfl)) ?_
    refine zr_icmp_ge (a := ((i : Nat) : Int)) (b := (u 0 28).toInt) (tgt := 31) X dX2_hasServed_7 (by decide) (nI_toInt (by omega)) rfl (fun c_1 => ?_) (fun c_1 => ?_)
    · refine lv_iconst (v := 0) X.1 X.2.1 dX2_hasServed_31 (by decide) ?_
      have hz : i = zn (u 0 28) := by omega
      exact zr_zret X hW dX2_hasServed_32 (Nat.le_refl _) (Nat.le_refl _) rfl ⟨rfl, rfl, rfl, Or.inr ⟨by rw [← hz, hrep]; decide, rfl⟩⟩
    · have hcq := zI_cq hI i (by omega)
      have hq1 := zr_cl hR (a := zn (u 29 i)) (by simp only [zi_n]; omega) hcq.2
      refine lv_aload_n X.1 X.2.1 dX2_hasServed_10 rfl (lv_at hl 1 rfl) ?_
      refine zr_get (r := 106) (v := .ref (ad 120)) X hW fs_X2_17_2 dX2_hasServed_11 (zc_s106 hS) rfl rfl rfl ?_
      refine lv_iload_n X.1 X.2.1 dX2_hasServed_14 rfl (lv_at hl 0 rfl) ?_
      have hx_2 := nI_clamp (n := i) (by omega)
      refine zr_aald (r := 120) (v := .ref (ad (200 + 2 * (zn (u 29 i))))) X hW dX2_hasServed_15 hcf rfl rfl rfl (zi_vp (by rw [nI_toInt (by omega)]; omega)) (by rw [hx_2, hcf2 i (by omega)]; rfl) ?_
      refine lv_aload_n X.1 X.2.1 dX2_hasServed_16 rfl (lv_at hl 2 rfl) ?_
      refine zr_callV (As := [.ref (ad (200 + 2 * cl))]) (rest := []) X hW hl.1 md_X1_sameAs ms_X2_31 dX2_hasServed_17 hq1.1 rfl rfl rfl rfl (Nat.le_of_ble_eq_true rfl) ⟨Nat.le_of_ble_eq_true rfl, Nat.le_of_ble_eq_true rfl⟩ ⟨Nat.le_of_ble_eq_true rfl, Nat.le_of_ble_eq_true rfl⟩ (c_X1_sameAs l Y N0 ad sh g u (zn (u 29 i)) cl hq1 hq) (fun v9 ad9 sh9 g9 H locs hp hW => ?_)
      rcases hp with ⟨rfl, rfl, rfl, ⟨h_3, h9⟩ | ⟨h_3, h9⟩⟩
      · subst h9
        have h_3 : zs_same u (zn (u 29 i)) cl := h_3
        refine zr_if_eq (a := 1) (tgt := 25) X dX2_hasServed_20 (by decide) (by decide) (fun c9 => absurd c9 (by decide)) (fun _ => ?_)
        refine lv_iconst (v := 1) X.1 X.2.1 dX2_hasServed_23 (by decide) ?_
        have hz : zs_rep u cl (zn (u 0 28)) = true := zs_rept u cl (k := i + 1) (by omega) (by show (zs_rep u cl i || decide (zs_same u (zn (u 29 i)) cl)) = true; rw [hrep, decide_eq_true h_3]; rfl)
        exact zr_zret X hW dX2_hasServed_24 (Nat.le_refl _) (Nat.le_refl _) rfl ⟨rfl, rfl, rfl, Or.inl ⟨hz, rfl⟩⟩
      · subst h9
        have h_3 : ¬ (zs_same u (zn (u 29 i)) cl) := h_3
        refine zr_if_eq (a := 0) (tgt := 25) X dX2_hasServed_20 (by decide) (by decide) (fun _ => ?_) (fun c9 => absurd c9 (by decide))
        refine lv_iinc (v := nI (i + 1)) (lv' := [(2, .int (nI (i + 1))), (0, .ref (ad 106)), (1, .ref (ad (200 + 2 * cl)))]) X.1 X.2.1 dX2_hasServed_25 hl (k := 0) rfl (nI_add i 1) (by decide) rfl (fun ls hl => ?_)
        refine lv_goto (tgt := 2) X.1 X.2.1 dX2_hasServed_28 (by decide) ?_
        exact ih (i + 1) _ _ _ (by omega) (by omega) (by show (zs_rep u cl i || decide (zs_same u (zn (u 29 i)) cl)) = false; rw [hrep, decide_eq_false h_3]; rfl) hW (lv_sub hl [0, 1, 2] rfl)

set_option maxHeartbeats 4000000 in
set_option maxRecDepth 100000 in
theorem c_X2_hasServed (l : Launch) (Y : zw_Y) (N0 : Nat) (ad : Nat → Nat) (sh : Nat → Option zw_Sh) (g u : zm_T) (hR : zc_R sh g u) (hI : zm_I u) (cl : Nat) (hcl : cl < zn (u 0 8)) (hk : (u 9 cl).toInt = 4) : zw_Met l Y N0 yX2_hasServed cX2_hasServed 3 (some .boolean) 2 42 0 0 ad sh g [.ref (ad 106), .ref (ad (200 + 2 * cl))] (zp_B ad sh g (zs_rep u cl (zn (u 0 28)) = true)) := by
  refine zw_meth (by decide) (Nat.le_of_ble_eq_true rfl) ?_
  intro p e s m below meth c ls X hnm hl hW
  have hl : lv_has ls 3 [(0, .ref (ad 106)), (1, .ref (ad (200 + 2 * cl)))] := hl
  refine lv_iconst (v := 0) X.1 X.2.1 dX2_hasServed_0 (by decide) ?_
  refine lv_istore_n (lv' := [(2, .int 0), (0, .ref (ad 106)), (1, .ref (ad (200 + 2 * cl)))]) X.1 X.2.1 dX2_hasServed_1 rfl hl (by decide) rfl (fun ls hl => ?_)
  exact lp_X2_hasServed l Y N0 ad sh g u hR hI cl hcl hk X hnm (zn (u 0 28) + 1) 0 _ _ _ (by omega) (by omega) rfl hW (lv_sub hl [0, 1, 2] rfl)
