set_option maxHeartbeats 4000000 in
set_option maxRecDepth 100000 in
theorem c_X9_ask (l : Launch) (Y : zw_Y) (N0 : Nat) (ad : Nat → Nat) (sh : Nat → Option zw_Sh) (g u : zm_T) (hR : zc_R sh g u) (hI : zm_I u) (a t : Int32) : zw_Met l Y N0 yX9_ask cX9_ask 5 (some .int) 3 66 2 8 ad sh g [.ref (ad 100), .int a, .int t] (zc_Po ad sh g (sp_ask a t u)) := by
  refine zw_meth (by decide) (Nat.le_of_ble_eq_true rfl) ?_
  intro p e s m below meth c ls X hnm hl hW
  have hl : lv_has ls 5 [(0, .ref (ad 100)), (1, .int a), (2, .int t)] := hl
  have hS := hR.1
  have hN0 := hR.2.1
  have hN := hR.2.1
  have hB : ∀ i : Nat, i < 12 → -1 ≤ (u 5 i).toInt := fun i hi => (zI_bk hI i hi).1
  have hT : ∀ i : Nat, i < 12 → -1 ≤ (u 23 i).toInt := fun i hi => (zI_tk hI i hi).1
  have hse := zI_se hI
  have hke := zI_ke hI
  refine lv_aload_n X.1 X.2.1 dX9_ask_0 rfl (lv_at hl 0 rfl) ?_
  refine lv_iload_n X.1 X.2.1 dX9_ask_1 rfl (lv_at hl 1 rfl) ?_
  refine zr_callV (As := [.int a]) (rest := []) X hW hl.1 md_X9_userAt ms_X9_112 dX9_ask_2 (zc_s100 hS) rfl rfl rfl rfl (Nat.le_of_ble_eq_true rfl) ⟨Nat.le_of_ble_eq_true rfl, Nat.le_of_ble_eq_true rfl⟩ ⟨Nat.le_of_ble_eq_true rfl, Nat.le_of_ble_eq_true rfl⟩ (c_X9_userAt l Y N0 ad sh g hS a) (fun v9 ad9 sh9 g9 H locs hp hW => ?_)
  rcases hp with ⟨rfl, rfl, rfl, ⟨h9, h8⟩ | ⟨h9, h8⟩ | ⟨h9, h8⟩ | ⟨h9, h8⟩ | ⟨h9, h8⟩⟩
  · subst h8
    subst h9
    refine lv_astore_n (lv' := [(3, .ref (ad 115)), (0, .ref (ad 100)), (1, .int 2), (2, .int t)]) X.1 X.2.1 dX9_ask_5 rfl hl (by decide) rfl (fun ls hl => ?_)
    refine lv_aload_n X.1 X.2.1 dX9_ask_6 rfl (lv_at hl 0 rfl) ?_
    refine lv_ifnull X.1 X.2.1 dX9_ask_7 ?_
    refine lv_aload_n X.1 X.2.1 dX9_ask_10 rfl (lv_at hl 0 rfl) ?_
    refine lv_iconst (v := 0) X.1 X.2.1 dX9_ask_11 (by decide) ?_
    refine zr_callV (As := [.int 0]) (rest := []) X hW hl.1 md_X8_hasCredential ms_X9_134 dX9_ask_12 (zc_s115 hS) rfl rfl rfl rfl (Nat.le_of_ble_eq_true rfl) ⟨Nat.le_of_ble_eq_true rfl, Nat.le_of_ble_eq_true rfl⟩ ⟨Nat.le_of_ble_eq_true rfl, Nat.le_of_ble_eq_true rfl⟩ (c_X8_hasCredential_0_0 l Y N0 ad sh g u hS hN hT) (fun v9 ad9 sh9 g9 H locs hp hW => ?_)
    rcases hp with ⟨rfl, rfl, rfl, ⟨h_1, h9⟩ | ⟨h_1, h9⟩⟩
    · subst h9
      have h_1 : 0 ≤ (u 23 4).toInt := h_1
      refine zr_if_eq (a := 1) (tgt := 25) X dX9_ask_15 (by decide) (by decide) (fun c9 => absurd c9 (by decide)) (fun _ => ?_)
      refine lv_iload_n X.1 X.2.1 dX9_ask_18 rfl (lv_at hl 3 rfl) ?_
      refine zr_callS (As := [.int t]) (rest := []) X hW hl.1 md_X9_isTarget ms_X9_116 dX9_ask_19 rfl rfl (Nat.le_of_ble_eq_true rfl) ⟨Nat.le_of_ble_eq_true rfl, Nat.le_of_ble_eq_true rfl⟩ ⟨Nat.le_of_ble_eq_true rfl, Nat.le_of_ble_eq_true rfl⟩ (c_X9_isTarget l Y N0 ad sh g t) (fun v9 ad9 sh9 g9 H locs hp hW => ?_)
      rcases hp with ⟨rfl, rfl, rfl, ⟨h_2, h9⟩ | ⟨h_2, h9⟩⟩
      · subst h9
        have h_2 : zi_in t 0 1 := h_2
        refine zr_if_ne (a := 1) (tgt := 27) X dX9_ask_22 (by decide) (by decide) (fun _ => ?_) (fun c9 => absurd c9 (by decide))
        refine lv_aload_n X.1 X.2.1 dX9_ask_27 rfl (lv_at hl 1 rfl) ?_
        refine lv_iconst (v := 0) X.1 X.2.1 dX9_ask_28 (by decide) ?_
        refine lv_iconst (v := 1) X.1 X.2.1 dX9_ask_29 (by decide) ?_
        refine zr_callV (As := [.int 0, .int 1]) (rest := []) X hW hl.1 md_X9_hasRoom ms_X9_76 dX9_ask_30 (zc_s100 hS) rfl rfl rfl rfl (Nat.le_of_ble_eq_true rfl) ⟨Nat.le_of_ble_eq_true rfl, Nat.le_of_ble_eq_true rfl⟩ ⟨Nat.le_of_ble_eq_true rfl, Nat.le_of_ble_eq_true rfl⟩ (c_X9_hasRoom_01 l Y N0 ad sh g u hS hN hI) (fun v9 ad9 sh9 g9 H locs hp hW => ?_)
        rcases hp with ⟨rfl, rfl, rfl, ⟨h_3, h9⟩ | ⟨h_3, h9⟩⟩
        · subst h9
          have h_3 : (u 0 2).toInt + 0 ≤ 200 ∧ (u 0 8).toInt + 1 ≤ 150 := h_3
          refine zr_if_ne (a := 1) (tgt := 39) X dX9_ask_33 (by decide) (by decide) (fun _ => ?_) (fun c9 => absurd c9 (by decide))
          refine lv_aload_n X.1 X.2.1 dX9_ask_39 rfl (lv_at hl 0 rfl) ?_
          refine zr_get (r := 115) (v := .ref (ad 134)) X hW fs_X9_137_7 dX9_ask_40 (zc_s115 hS) rfl rfl rfl ?_
          refine lv_iconst (v := 0) X.1 X.2.1 dX9_ask_43 (by decide) ?_
          refine zr_iald (r := 134) (v := u 24 4) X hW dX9_ask_44 (zc_s134 hS) rfl rfl (zi_vp (by decide)) ((show g 134 (0 : Int32).toNatClampNeg = g 134 0 from rfl).trans (hR.2.2.2.1 0 0 (by omega) (by omega) (show ¬ (u 23 4).toInt = -1 by omega))) ?_
          refine lv_istore (lv' := [(4, .int (u 24 4)), (3, .ref (ad 115)), (0, .ref (ad 100)), (1, .int 2), (2, .int t)]) X.1 X.2.1 dX9_ask_45 hl (by decide) rfl (fun ls hl => ?_)
          refine lv_aload_n X.1 X.2.1 dX9_ask_47 rfl (lv_at hl 1 rfl) ?_
          refine lv_aload_n X.1 X.2.1 dX9_ask_48 rfl (lv_at hl 2 rfl) ?_
          refine zr_callV (As := []) (rest := [.ref (ad 115)]) X hW hl.1 md_X9_makeNonce ms_X9_119 dX9_ask_49 (zc_s100 hS) rfl rfl rfl rfl (Nat.le_of_ble_eq_true rfl) ⟨Nat.le_of_ble_eq_true rfl, Nat.le_of_ble_eq_true rfl⟩ ⟨Nat.le_of_ble_eq_true rfl, Nat.le_of_ble_eq_true rfl⟩ (c_X9_makeNonce l Y N0 ad sh g u hS hN) (fun v9 ad9 sh9 g9 H locs hp hW => ?_)
          obtain ⟨rfl, rfl, _, rfl, rfl, rfl⟩ := hp
          obtain ⟨g_5, hg_5⟩ : ∃ z : zm_T, z = zm_w g 100 11 (u 0 19 + 1) := ⟨_, rfl⟩
          rw [← hg_5] at hW
          obtain ⟨u_6, hu_6⟩ : ∃ z : zm_T, z = zm_w u 0 19 (u 0 19 + 1) := ⟨_, rfl⟩
          have hN : zc_N g_5 u_6 := by rw [hg_5, hu_6]; exact zc_Nw hN rfl _
          refine lv_iload_n X.1 X.2.1 dX9_ask_52 rfl (lv_at hl 4 rfl) ?_
          refine lv_iload X.1 X.2.1 dX9_ask_53 (lv_at hl 0 rfl) ?_
          refine zr_callV (As := [.int (u 0 19 + 1), .int t, .int (u 24 4)]) (rest := []) X hW hl.1 md_X8_openRequest ms_X9_122 dX9_ask_55 (zc_s115 hS) rfl rfl rfl rfl (Nat.le_of_ble_eq_true rfl) ⟨Nat.le_of_ble_eq_true rfl, Nat.le_of_ble_eq_true rfl⟩ ⟨Nat.le_of_ble_eq_true rfl, Nat.le_of_ble_eq_true rfl⟩ (c_X8_openRequest_0 l Y N0 ad sh g_5 hS (u 0 19 + 1) t (u 24 4)) (fun v9 ad9 sh9 g9 H locs hp hW => ?_)
          obtain ⟨rfl, rfl, rfl, rfl⟩ := hp
          obtain ⟨g_10, hg_10⟩ : ∃ z : zm_T, z = zm_w g_5 115 0 (u 0 19 + 1) := ⟨_, rfl⟩
          obtain ⟨g_11, hg_11⟩ : ∃ z : zm_T, z = zm_w g_10 115 1 t := ⟨_, rfl⟩
          obtain ⟨g_12, hg_12⟩ : ∃ z : zm_T, z = zm_w g_11 115 2 (u 24 4) := ⟨_, rfl⟩
          rw [← hg_10, ← hg_11, ← hg_12] at hW
          obtain ⟨u_13, hu_13⟩ : ∃ z : zm_T, z = zm_w u_6 20 2 (u 0 19 + 1) := ⟨_, rfl⟩
          have hN : zc_N g_10 u_13 := by rw [hg_10, hu_13]; exact zc_Nw hN rfl _
          obtain ⟨u_14, hu_14⟩ : ∃ z : zm_T, z = zm_w u_13 21 2 t := ⟨_, rfl⟩
          have hN : zc_N g_11 u_14 := by rw [hg_11, hu_14]; exact zc_Nw hN rfl _
          have hN : zc_N g_12 u_14 := by rw [hg_12]; exact zc_Nc hN rfl _
          have hR9 : zc_R sh g_12 (zs_rq u 2 t (u 24 4)) := by rw [hg_12, hg_11, hg_10, hg_5]; exact zc_rqR hR (j := 0) (by omega) t (u 24 4)
          have h8 : 0 ≤ ((zs_rq u 2 t (u 24 4)) 0 8).toInt ∧ ((zs_rq u 2 t (u 24 4)) 0 8).toInt < 150 := (show 0 ≤ (u 0 8).toInt ∧ (u 0 8).toInt < 150 by omega)
          have hsp : sp_ask 2 t u = ((zs_rq u 2 t (u 24 4)) 0 8, zs_mk (zm_w (zs_rq u 2 t (u 24 4)) 25 2 ((zs_rq u 2 t (u 24 4)) 25 2 + 1)) (zs_v 4 ((zs_rq u 2 t (u 24 4)) 24 4) 2 (-1) ((zs_rq u 2 t (u 24 4)) 1 2) ((zs_rq u 2 t (u 24 4)) 25 2 + 1) 0 0 0 0)) := (by unfold sp_ask; simp only [show zn (2 : Int32) = 2 from rfl, Nat.reduceMul, Nat.reduceAdd]; (first | refine (if_neg (fun h9 => h9 ⟨by decide, by omega⟩)).trans ?_ | refine (if_pos (fun h9 => by obtain ⟨-, h9⟩ := h9; omega)).trans ?_ | refine (if_pos (by omega)).trans ?_); (repeat (first | refine (if_pos (by omega)).trans ?_ | refine (if_neg (by omega)).trans ?_)); rfl)
          rw [show u 24 4 = (zs_rq u 2 t (u 24 4)) 24 4 from rfl] at hl
          have hl9 := hl
          clear hl
          have hfr : zc_fr ad sh g ad sh g_12 := zc_fr1 (fun r h => by rw [hg_12, zm_wr (by omega), hg_11, zm_wr (by omega), hg_10, zm_wr (by omega), hg_5, zm_wr (by omega)])
          clear hN hN0
          generalize (zs_rq u 2 t (u 24 4)) = v1 at hR9 h8 hsp hl9
          obtain ⟨u, rfl⟩ : ∃ z : zm_T, z = v1 := ⟨_, rfl⟩
          clear hg_12 hg_11 hg_10 hg_5
          obtain ⟨g, rfl⟩ : ∃ z : zm_T, z = g_12 := ⟨_, rfl⟩
          have hR := hR9
          clear hR9
          have hS := hR.1
          have hN0 := hR.2.1
          have hN := hR.2.1
          have hl := hl9
          refine lv_aload_n X.1 X.2.1 dX9_ask_58 rfl (lv_at hl 2 rfl) ?_
          refine zr_new (ss := [none, none, none, none, some none]) X hW cs_X1 ns_X9_140 dX9_ask_59 ds_X1 (by intro r h; simp at h) (200 + 2 * zn (u 0 8)) (hR.2.2.2.2.2.2.1 (200 + 2 * zn (u 0 8)) (by omega)) (Nat.le_of_ble_eq_true rfl) (Nat.le_of_ble_eq_true rfl) (fun ad_15 H had_15 hW => ?_)
          obtain ⟨sh_16, hsh_16⟩ : ∃ z : Nat → Option zw_Sh, z = va_up sh (200 + 2 * zn (u 0 8)) (some (.inl (1, [none, none, none, none, some none]))) := ⟨_, rfl⟩
          obtain ⟨g_17, hg_17⟩ : ∃ z : zm_T, z = va_up g (200 + 2 * zn (u 0 8)) (fun _ => 0) := ⟨_, rfl⟩
          rw [← hsh_16, ← hg_17] at hW
          have hS : zc_S sh_16 := by rw [hsh_16]; exact zc_S200 (by omega) hS
          have hN : zc_N g_17 u := by rw [hg_17]; exact zc_Nv hN (by omega)
          refine lv_dup X.1 X.2.1 dX9_ask_62 rfl ?_
          refine lv_iload X.1 X.2.1 dX9_ask_63 (lv_at hl 0 rfl) ?_
          refine lv_iload_n X.1 X.2.1 dX9_ask_65 rfl (lv_at hl 3 rfl) ?_
          refine lv_aload_n X.1 X.2.1 dX9_ask_66 rfl (lv_at hl 2 rfl) ?_
          refine zr_get (r := 100) (v := .ref (ad_15 101)) X hW fs_X9_9_8 dX9_ask_67 (zc_s100 hS) (had_15 100 (by omega)) rfl rfl ?_
          refine lv_iload_n X.1 X.2.1 dX9_ask_70 rfl (lv_at hl 3 rfl) ?_
          refine zr_iald (r := 101) (v := u 1 2) X hW dX9_ask_71 (zc_s101 hS) rfl rfl (zi_vp (by decide)) ((show g_17 101 (2 : Int32).toNatClampNeg = g_17 101 2 from rfl).trans ((show g_17 101 2 = g 101 2 from (by rw [hg_17, va_up_ne _ _ (by omega)])).trans (hN0 _ _ _ _ rfl))) ?_
          refine lv_aload_n X.1 X.2.1 dX9_ask_72 rfl (lv_at hl 1 rfl) ?_
          refine zr_callV (As := []) (rest := [.int (u 1 2), .int 2, .int (u 24 4), .ref (ad_15 (200 + 2 * zn (u 0 8))), .ref (ad_15 (200 + 2 * zn (u 0 8))), .ref (ad 100)]) X hW hl.1 md_X8_makeSerial ms_X9_142 dX9_ask_73 (zc_s115 hS) rfl rfl rfl (by rw [(had_15 115 (by omega))] <;> rfl) (Nat.le_of_ble_eq_true rfl) ⟨Nat.le_of_ble_eq_true rfl, Nat.le_of_ble_eq_true rfl⟩ ⟨Nat.le_of_ble_eq_true rfl, Nat.le_of_ble_eq_true rfl⟩ (c_X8_makeSerial_0 l Y N0 ad_15 sh_16 g_17 u hS hN) (fun v9 ad9 sh9 g9 H locs hp hW => ?_)
          obtain ⟨rfl, rfl, _, rfl, rfl, rfl⟩ := hp
          obtain ⟨g_19, hg_19⟩ : ∃ z : zm_T, z = zm_w g_17 115 3 (u 25 2 + 1) := ⟨_, rfl⟩
          rw [← hg_19] at hW
          obtain ⟨u_20, hu_20⟩ : ∃ z : zm_T, z = zm_w u 25 2 (u 25 2 + 1) := ⟨_, rfl⟩
          have hN : zc_N g_19 u_20 := by rw [hg_19, hu_20]; exact zc_Nw hN rfl _
          refine zr_new (ss := [none, none, none]) X hW cs_X3 ns_X9_145 dX9_ask_76 ds_X3 (by intro r h; simp at h) (201 + 2 * zn (u 0 8)) (show sh_16 (201 + 2 * zn (u 0 8)) = none from (by rw [hsh_16]; exact (va_up_ne _ _ (by omega)).trans (hR.2.2.2.2.2.2.1 (201 + 2 * zn (u 0 8)) (by omega)))) (Nat.le_of_ble_eq_true rfl) (Nat.le_of_ble_eq_true rfl) (fun ad_21 H had_21 hW => ?_)
          obtain ⟨sh_22, hsh_22⟩ : ∃ z : Nat → Option zw_Sh, z = va_up sh_16 (201 + 2 * zn (u 0 8)) (some (.inl (3, [none, none, none]))) := ⟨_, rfl⟩
          obtain ⟨g_23, hg_23⟩ : ∃ z : zm_T, z = va_up g_19 (201 + 2 * zn (u 0 8)) (fun _ => 0) := ⟨_, rfl⟩
          rw [← hsh_22, ← hg_23] at hW
          have hS : zc_S sh_22 := by rw [hsh_22]; exact zc_S200 (by omega) hS
          have hN : zc_N g_23 u_20 := by rw [hg_23]; exact zc_Nv hN (by omega)
          refine lv_dup X.1 X.2.1 dX9_ask_79 rfl ?_
          refine lv_iconst (v := 0) X.1 X.2.1 dX9_ask_80 (by decide) ?_
          refine lv_iconst (v := 0) X.1 X.2.1 dX9_ask_81 (by decide) ?_
          refine lv_iconst (v := 0) X.1 X.2.1 dX9_ask_82 (by decide) ?_
          refine zr_callI (As := [.int 0, .int 0, .int 0]) (rest := [.ref (ad_21 (201 + 2 * zn (u 0 8))), .int (u 25 2 + 1), .int (u 1 2), .int 2, .int (u 24 4), .ref (ad_15 (200 + 2 * zn (u 0 8))), .ref (ad_15 (200 + 2 * zn (u 0 8))), .ref (ad 100)]) (b := ad_21 (201 + 2 * zn (u 0 8))) X hW hl.1 md_X3_init ms_X9_147 rfl dX9_ask_83 rfl rfl (Nat.le_of_ble_eq_true rfl) ⟨Nat.le_of_ble_eq_true rfl, Nat.le_of_ble_eq_true rfl⟩ ⟨Nat.le_of_ble_eq_true rfl, Nat.le_of_ble_eq_true rfl⟩ (c_X3_init l Y N0 ad_21 sh_22 g_23 ((201 + 2 * zn (u 0 8))) (show sh_22 (201 + 2 * zn (u 0 8)) = some (.inl (3, [none, none, none])) from (by rw [hsh_22]; exact va_up_self _ _ _)) 0 0 0) (fun v9 ad9 sh9 g9 H locs hp hW => ?_)
          obtain ⟨rfl, rfl, rfl, rfl⟩ := hp
          obtain ⟨g_27, hg_27⟩ : ∃ z : zm_T, z = zm_w g_23 (201 + 2 * zn (u 0 8)) 0 0 := ⟨_, rfl⟩
          obtain ⟨g_28, hg_28⟩ : ∃ z : zm_T, z = zm_w g_27 (201 + 2 * zn (u 0 8)) 1 0 := ⟨_, rfl⟩
          obtain ⟨g_29, hg_29⟩ : ∃ z : zm_T, z = zm_w g_28 (201 + 2 * zn (u 0 8)) 2 0 := ⟨_, rfl⟩
          rw [← hg_27, ← hg_28, ← hg_29] at hW
          have hN : zc_N g_27 u_20 := by rw [hg_27]; exact zc_Nc hN (zc_lm200 (by omega)) _
          have hN : zc_N g_28 u_20 := by rw [hg_28]; exact zc_Nc hN (zc_lm200 (by omega)) _
          have hN : zc_N g_29 u_20 := by rw [hg_29]; exact zc_Nc hN (zc_lm200 (by omega)) _
          refine zr_callI (As := [.int (u 24 4), .int 2, .int (u 1 2), .int (u 25 2 + 1), .ref (ad_21 (201 + 2 * zn (u 0 8)))]) (rest := [.ref (ad_15 (200 + 2 * zn (u 0 8))), .ref (ad 100)]) (b := ad_21 (200 + 2 * zn (u 0 8))) X hW hl.1 md_X1_init ms_X9_148 rfl dX9_ask_86 rfl (by rw [(had_21 ((200 + 2 * zn (u 0 8))) (by omega))] <;> rfl) (Nat.le_of_ble_eq_true rfl) ⟨Nat.le_of_ble_eq_true rfl, Nat.le_of_ble_eq_true rfl⟩ ⟨Nat.le_of_ble_eq_true rfl, Nat.le_of_ble_eq_true rfl⟩ (c_X1_init l Y N0 ad_21 sh_22 g_29 ((200 + 2 * zn (u 0 8))) ((201 + 2 * zn (u 0 8))) (show sh_22 (200 + 2 * zn (u 0 8)) = some (.inl (1, [none, none, none, none, some none])) from (by rw [hsh_22]; exact (va_up_ne _ _ (by omega)).trans (show sh_16 (200 + 2 * zn (u 0 8)) = some (.inl (1, [none, none, none, none, some none])) from (by rw [hsh_16]; exact va_up_self _ _ _)))) (by rw [(show sh_22 (201 + 2 * zn (u 0 8)) = some (.inl (3, [none, none, none])) from (by rw [hsh_22]; exact va_up_self _ _ _))]; simp) (u 24 4) 2 (u 1 2) (u 25 2 + 1)) (fun v9 ad9 sh9 g9 H locs hp hW => ?_)
          obtain ⟨rfl, rfl, rfl, rfl⟩ := hp
          obtain ⟨g_34, hg_34⟩ : ∃ z : zm_T, z = zm_w g_29 (200 + 2 * zn (u 0 8)) 0 (u 24 4) := ⟨_, rfl⟩
          obtain ⟨g_35, hg_35⟩ : ∃ z : zm_T, z = zm_w g_34 (200 + 2 * zn (u 0 8)) 1 2 := ⟨_, rfl⟩
          obtain ⟨g_36, hg_36⟩ : ∃ z : zm_T, z = zm_w g_35 (200 + 2 * zn (u 0 8)) 2 (u 1 2) := ⟨_, rfl⟩
          obtain ⟨g_37, hg_37⟩ : ∃ z : zm_T, z = zm_w g_36 (200 + 2 * zn (u 0 8)) 3 (u 25 2 + 1) := ⟨_, rfl⟩
          rw [← hg_34, ← hg_35, ← hg_36, ← hg_37] at hW
          have hN : zc_N g_34 u_20 := by rw [hg_34]; exact zc_Nc hN (zc_lm200 (by omega)) _
          have hN : zc_N g_35 u_20 := by rw [hg_35]; exact zc_Nc hN (zc_lm200 (by omega)) _
          have hN : zc_N g_36 u_20 := by rw [hg_36]; exact zc_Nc hN (zc_lm200 (by omega)) _
          have hN : zc_N g_37 u_20 := by rw [hg_37]; exact zc_Nc hN (zc_lm200 (by omega)) _
          obtain ⟨sh_38, hsh_38⟩ : ∃ z : Nat → Option zw_Sh, z = va_up sh_22 (200 + 2 * zn (u 0 8)) (some (.inl (1, [none, none, none, none, some (some (201 + 2 * zn (u 0 8)))]))) := ⟨_, rfl⟩
          rw [← hsh_38] at hW
          have hS : zc_S sh_38 := by rw [hsh_38]; exact zc_S200 (by omega) hS
          refine zr_callV (As := [.ref (ad_21 (200 + 2 * zn (u 0 8)))]) (rest := []) X hW hl.1 md_X9_keep ms_X9_130 dX9_ask_89 (zc_s100 hS) rfl rfl rfl (by rw [((had_21 100 (by omega)).trans (had_15 100 (by omega))), (had_21 ((200 + 2 * zn (u 0 8))) (by omega))] <;> rfl) (Nat.le_of_ble_eq_true rfl) ⟨Nat.le_of_ble_eq_true rfl, Nat.le_of_ble_eq_true rfl⟩ ⟨Nat.le_of_ble_eq_true rfl, Nat.le_of_ble_eq_true rfl⟩ (c_X9_keep_1 l Y N0 ad_21 sh_38 g_37 hS (u 0 8) ((show g_37 100 8 = g_36 100 8 from (by rw [hg_37]; exact zm_wn _ _ (Or.inl (by omega)))).trans ((show g_36 100 8 = g_35 100 8 from (by rw [hg_36]; exact zm_wn _ _ (Or.inl (by omega)))).trans ((show g_35 100 8 = g_34 100 8 from (by rw [hg_35]; exact zm_wn _ _ (Or.inl (by omega)))).trans ((show g_34 100 8 = g_29 100 8 from (by rw [hg_34]; exact zm_wn _ _ (Or.inl (by omega)))).trans ((show g_29 100 8 = g_28 100 8 from (by rw [hg_29]; exact zm_wn _ _ (Or.inl (by omega)))).trans ((show g_28 100 8 = g_27 100 8 from (by rw [hg_28]; exact zm_wn _ _ (Or.inl (by omega)))).trans ((show g_27 100 8 = g_23 100 8 from (by rw [hg_27]; exact zm_wn _ _ (Or.inl (by omega)))).trans ((show g_23 100 8 = g_19 100 8 from (by rw [hg_23, va_up_ne _ _ (by omega)])).trans ((show g_19 100 8 = g_17 100 8 from (by rw [hg_19]; rfl)).trans ((show g_17 100 8 = g 100 8 from (by rw [hg_17, va_up_ne _ _ (by omega)])).trans (hN0 _ _ _ _ rfl))))))))))) h8 (show sh_38 107 = some (.inr (3, 150, some (zc_sf (zn (u 0 8))))) from (by rw [hsh_38]; exact (va_up_ne _ _ (by omega)).trans (show sh_22 107 = some (.inr (3, 150, some (zc_sf (zn (u 0 8))))) from (by rw [hsh_22]; exact (va_up_ne _ _ (by omega)).trans (show sh_16 107 = some (.inr (3, 150, some (zc_sf (zn (u 0 8))))) from (by rw [hsh_16]; exact (va_up_ne _ _ (by omega)).trans hR.2.2.2.2.1)))))) (show sh_38 (200 + 2 * zn (u 0 8)) = some (.inl (1, [none, none, none, none, some (some (201 + 2 * zn (u 0 8)))])) from (by rw [hsh_38]; exact va_up_self _ _ _))) (fun v9 ad9 sh9 g9 H locs hp hW => ?_)
          obtain ⟨rfl, rfl, rfl, rfl⟩ := hp
          obtain ⟨sh_39, hsh_39⟩ : ∃ z : Nat → Option zw_Sh, z = va_up sh_38 107 (some (.inr (3, 150, some (zc_sf (zn (u 0 8) + 1))))) := ⟨_, rfl⟩
          obtain ⟨g_40, hg_40⟩ : ∃ z : zm_T, z = zm_w g_37 100 8 (u 0 8 + 1) := ⟨_, rfl⟩
          rw [← hsh_39, ← hg_40] at hW
          have hN9 : zc_N g_40 (zs_mk u_20 (zs_v 4 (u 24 4) 2 (-1) (u 1 2) (u 25 2 + 1) 0 0 0 0)) := by
            have e : u_20 0 8 = u 0 8 := by rw [hu_20]; rfl
            rw [hg_40, ← e]; exact zc_Nmk hN _
          have e8 : zn (u_20 0 8) = zn (u 0 8) := by rw [hu_20]; rfl
          have hu9 : ∀ r i : Nat, (r = 20 ∨ r = 22 ∨ r = 23 ∨ r = 24 ∨ r = 29 ∨ (r = 0 ∧ i = 28) ∨ (9 ≤ r ∧ r ≤ 18 ∧ i ≠ zn (u 0 8))) → zs_mk u_20 (zs_v 4 (u 24 4) 2 (-1) (u 1 2) (u 25 2 + 1) 0 0 0 0) r i = u r i := fun r i h => by
            rw [zs_mku u_20 _ r i (by rw [e8]; exact h)]
            rw [hu_20, zm_wn _ _ (by omega)]
          have hvv : ∀ r : Nat, 9 ≤ r ∧ r ≤ 18 → zs_mk u_20 (zs_v 4 (u 24 4) 2 (-1) (u 1 2) (u 25 2 + 1) 0 0 0 0) r (zn (u 0 8)) = (zs_v 4 (u 24 4) 2 (-1) (u 1 2) (u 25 2 + 1) 0 0 0 0) r := fun r h => by rw [← e8]; exact zs_mkn u_20 _ h
          have hsl9 : zc_sl sh_39 g_40 (zs_mk u_20 (zs_v 4 (u 24 4) 2 (-1) (u 1 2) (u 25 2 + 1) 0 0 0 0)) (zn (u 0 8)) := by
            unfold zc_sl
            rw [hvv 9 (by decide), hvv 10 (by decide), hvv 11 (by decide), hvv 12 (by decide), hvv 13 (by decide), hvv 14 (by decide), hvv 15 (by decide), hvv 16 (by decide), hvv 17 (by decide), hvv 18 (by decide)]
            exact ⟨fun h => absurd (show (4 : Int32).toInt = 1 from h) (by decide), fun h => absurd (show (4 : Int32).toInt = 2 from h) (by decide), fun h => absurd (show (4 : Int32).toInt = 3 from h) (by decide), fun _ => ⟨(show sh_39 (200 + 2 * zn (u 0 8)) = some (.inl (1, [none, none, none, none, some (some (201 + 2 * zn (u 0 8)))])) from (by rw [hsh_39]; exact (va_up_ne _ _ (by omega)).trans (show sh_38 (200 + 2 * zn (u 0 8)) = some (.inl (1, [none, none, none, none, some (some (201 + 2 * zn (u 0 8)))])) from (by rw [hsh_38]; exact va_up_self _ _ _)))), (show sh_39 (201 + 2 * zn (u 0 8)) = some (.inl (3, [none, none, none])) from (by rw [hsh_39]; exact (va_up_ne _ _ (by omega)).trans (show sh_38 (201 + 2 * zn (u 0 8)) = some (.inl (3, [none, none, none])) from (by rw [hsh_38]; exact (va_up_ne _ _ (by omega)).trans (show sh_22 (201 + 2 * zn (u 0 8)) = some (.inl (3, [none, none, none])) from (by rw [hsh_22]; exact va_up_self _ _ _)))))), ((show g_40 (200 + 2 * zn (u 0 8)) 0 = g_37 (200 + 2 * zn (u 0 8)) 0 from (by rw [hg_40, zm_wn _ _ (Or.inl (by omega))])).trans ((show g_37 (200 + 2 * zn (u 0 8)) 0 = g_36 (200 + 2 * zn (u 0 8)) 0 from (by rw [hg_37]; exact zm_wn _ _ (Or.inr (by decide)))).trans ((show g_36 (200 + 2 * zn (u 0 8)) 0 = g_35 (200 + 2 * zn (u 0 8)) 0 from (by rw [hg_36]; exact zm_wn _ _ (Or.inr (by decide)))).trans ((show g_35 (200 + 2 * zn (u 0 8)) 0 = g_34 (200 + 2 * zn (u 0 8)) 0 from (by rw [hg_35]; exact zm_wn _ _ (Or.inr (by decide)))).trans (show g_34 (200 + 2 * zn (u 0 8)) 0 = u 24 4 from (by rw [hg_34]; exact zm_ws _ _ _ _)))))), ((show g_40 (200 + 2 * zn (u 0 8)) 1 = g_37 (200 + 2 * zn (u 0 8)) 1 from (by rw [hg_40, zm_wn _ _ (Or.inl (by omega))])).trans ((show g_37 (200 + 2 * zn (u 0 8)) 1 = g_36 (200 + 2 * zn (u 0 8)) 1 from (by rw [hg_37]; exact zm_wn _ _ (Or.inr (by decide)))).trans ((show g_36 (200 + 2 * zn (u 0 8)) 1 = g_35 (200 + 2 * zn (u 0 8)) 1 from (by rw [hg_36]; exact zm_wn _ _ (Or.inr (by decide)))).trans (show g_35 (200 + 2 * zn (u 0 8)) 1 = 2 from (by rw [hg_35]; exact zm_ws _ _ _ _))))), ((show g_40 (200 + 2 * zn (u 0 8)) 2 = g_37 (200 + 2 * zn (u 0 8)) 2 from (by rw [hg_40, zm_wn _ _ (Or.inl (by omega))])).trans ((show g_37 (200 + 2 * zn (u 0 8)) 2 = g_36 (200 + 2 * zn (u 0 8)) 2 from (by rw [hg_37]; exact zm_wn _ _ (Or.inr (by decide)))).trans (show g_36 (200 + 2 * zn (u 0 8)) 2 = u 1 2 from (by rw [hg_36]; exact zm_ws _ _ _ _)))), ((show g_40 (200 + 2 * zn (u 0 8)) 3 = g_37 (200 + 2 * zn (u 0 8)) 3 from (by rw [hg_40, zm_wn _ _ (Or.inl (by omega))])).trans (show g_37 (200 + 2 * zn (u 0 8)) 3 = u 25 2 + 1 from (by rw [hg_37]; exact zm_ws _ _ _ _))), ((show g_40 (201 + 2 * zn (u 0 8)) 0 = g_37 (201 + 2 * zn (u 0 8)) 0 from (by rw [hg_40, zm_wn _ _ (Or.inl (by omega))])).trans ((show g_37 (201 + 2 * zn (u 0 8)) 0 = g_36 (201 + 2 * zn (u 0 8)) 0 from (by rw [hg_37]; exact zm_wn _ _ (Or.inl (by omega)))).trans ((show g_36 (201 + 2 * zn (u 0 8)) 0 = g_35 (201 + 2 * zn (u 0 8)) 0 from (by rw [hg_36]; exact zm_wn _ _ (Or.inl (by omega)))).trans ((show g_35 (201 + 2 * zn (u 0 8)) 0 = g_34 (201 + 2 * zn (u 0 8)) 0 from (by rw [hg_35]; exact zm_wn _ _ (Or.inl (by omega)))).trans ((show g_34 (201 + 2 * zn (u 0 8)) 0 = g_29 (201 + 2 * zn (u 0 8)) 0 from (by rw [hg_34]; exact zm_wn _ _ (Or.inl (by omega)))).trans ((show g_29 (201 + 2 * zn (u 0 8)) 0 = g_28 (201 + 2 * zn (u 0 8)) 0 from (by rw [hg_29]; exact zm_wn _ _ (Or.inr (by decide)))).trans ((show g_28 (201 + 2 * zn (u 0 8)) 0 = g_27 (201 + 2 * zn (u 0 8)) 0 from (by rw [hg_28]; exact zm_wn _ _ (Or.inr (by decide)))).trans (show g_27 (201 + 2 * zn (u 0 8)) 0 = 0 from (by rw [hg_27]; exact zm_ws _ _ _ _))))))))), ((show g_40 (201 + 2 * zn (u 0 8)) 1 = g_37 (201 + 2 * zn (u 0 8)) 1 from (by rw [hg_40, zm_wn _ _ (Or.inl (by omega))])).trans ((show g_37 (201 + 2 * zn (u 0 8)) 1 = g_36 (201 + 2 * zn (u 0 8)) 1 from (by rw [hg_37]; exact zm_wn _ _ (Or.inl (by omega)))).trans ((show g_36 (201 + 2 * zn (u 0 8)) 1 = g_35 (201 + 2 * zn (u 0 8)) 1 from (by rw [hg_36]; exact zm_wn _ _ (Or.inl (by omega)))).trans ((show g_35 (201 + 2 * zn (u 0 8)) 1 = g_34 (201 + 2 * zn (u 0 8)) 1 from (by rw [hg_35]; exact zm_wn _ _ (Or.inl (by omega)))).trans ((show g_34 (201 + 2 * zn (u 0 8)) 1 = g_29 (201 + 2 * zn (u 0 8)) 1 from (by rw [hg_34]; exact zm_wn _ _ (Or.inl (by omega)))).trans ((show g_29 (201 + 2 * zn (u 0 8)) 1 = g_28 (201 + 2 * zn (u 0 8)) 1 from (by rw [hg_29]; exact zm_wn _ _ (Or.inr (by decide)))).trans (show g_28 (201 + 2 * zn (u 0 8)) 1 = 0 from (by rw [hg_28]; exact zm_ws _ _ _ _)))))))), ((show g_40 (201 + 2 * zn (u 0 8)) 2 = g_37 (201 + 2 * zn (u 0 8)) 2 from (by rw [hg_40, zm_wn _ _ (Or.inl (by omega))])).trans ((show g_37 (201 + 2 * zn (u 0 8)) 2 = g_36 (201 + 2 * zn (u 0 8)) 2 from (by rw [hg_37]; exact zm_wn _ _ (Or.inl (by omega)))).trans ((show g_36 (201 + 2 * zn (u 0 8)) 2 = g_35 (201 + 2 * zn (u 0 8)) 2 from (by rw [hg_36]; exact zm_wn _ _ (Or.inl (by omega)))).trans ((show g_35 (201 + 2 * zn (u 0 8)) 2 = g_34 (201 + 2 * zn (u 0 8)) 2 from (by rw [hg_35]; exact zm_wn _ _ (Or.inl (by omega)))).trans ((show g_34 (201 + 2 * zn (u 0 8)) 2 = g_29 (201 + 2 * zn (u 0 8)) 2 from (by rw [hg_34]; exact zm_wn _ _ (Or.inl (by omega)))).trans (show g_29 (201 + 2 * zn (u 0 8)) 2 = 0 from (by rw [hg_29]; exact zm_ws _ _ _ _)))))))⟩⟩
          have hz9 : zn (zs_mk u_20 (zs_v 4 (u 24 4) 2 (-1) (u 1 2) (u 25 2 + 1) 0 0 0 0) 0 8) = zn (u 0 8) + 1 := by have q9 := zs_mkz (u := u_20) (by rw [hu_20]; exact h8) (zs_v 4 (u 24 4) 2 (-1) (u 1 2) (u 25 2 + 1) 0 0 0 0); rw [q9, e8]
          have hR9 : zc_R sh_39 g_40 (zs_mk u_20 (zs_v 4 (u 24 4) 2 (-1) (u 1 2) (u 25 2 + 1) 0 0 0 0)) := zc_add (n := (zn (u 0 8))) hR rfl hz9 hN9 hu9 (show sh_39 107 = some (.inr (3, 150, some (zc_sf (zn (u 0 8) + 1)))) from (by rw [hsh_39]; exact va_up_self _ _ _)) (fun r h1 h2 h3 => by rw [hsh_39, va_up_ne _ _ (by omega), hsh_38, va_up_ne _ _ (by omega), hsh_22, va_up_ne _ _ (by omega), hsh_16, va_up_ne _ _ (by omega)]) (fun r h1 h2 h3 => by rw [hg_40, zm_wr (by omega), hg_37, zm_wr (by omega), hg_36, zm_wr (by omega), hg_35, zm_wr (by omega), hg_34, zm_wr (by omega), hg_29, zm_wr (by omega), hg_28, zm_wr (by omega), hg_27, zm_wr (by omega), hg_23, va_up_ne _ _ (by omega), hg_19, zm_wr (by omega), hg_17, va_up_ne _ _ (by omega)]) (fun j hj => by rw [hg_40, zm_wn _ _ (by omega), hg_37, zm_wn _ _ (by omega), hg_36, zm_wn _ _ (by omega), hg_35, zm_wn _ _ (by omega), hg_34, zm_wn _ _ (by omega), hg_29, zm_wn _ _ (by omega), hg_28, zm_wn _ _ (by omega), hg_27, zm_wn _ _ (by omega), hg_23, va_up_ne _ _ (by omega), hg_19, zm_wn _ _ (by omega), hg_17, va_up_ne _ _ (by omega)]) hsl9
          have hf9 : zc_fr ad sh g ad_21 sh_39 g_40 := ⟨fun r hr => (had_21 r (by omega)).trans (had_15 r (by omega)), fun r hr => ⟨by rw [hsh_39, va_up_ne _ _ (by omega), hsh_38, va_up_ne _ _ (by omega), hsh_22, va_up_ne _ _ (by omega), hsh_16, va_up_ne _ _ (by omega)], by rw [hg_40, zm_wr (by omega), hg_37, zm_wr (by omega), hg_36, zm_wr (by omega), hg_35, zm_wr (by omega), hg_34, zm_wr (by omega), hg_29, zm_wr (by omega), hg_28, zm_wr (by omega), hg_27, zm_wr (by omega), hg_23, va_up_ne _ _ (by omega), hg_19, zm_wr (by omega), hg_17, va_up_ne _ _ (by omega)]⟩⟩
          have hf8 := hfr
          rw [hu_20] at hR9
          exact zr_iret X hW dX9_ask_92 (Nat.le_of_ble_eq_true rfl) (Nat.le_of_ble_eq_true rfl) ⟨by rw [hsp], by rw [hsp]; exact hR9, ⟨fun r hr => (hf9.1 r hr).trans (hf8.1 r hr), fun r hr => ⟨(hf9.2 r hr).1.trans (hf8.2 r hr).1, (hf9.2 r hr).2.trans (hf8.2 r hr).2⟩⟩⟩
        · subst h9
          have h_3 : ¬ ((u 0 2).toInt + 0 ≤ 200 ∧ (u 0 8).toInt + 1 ≤ 150) := h_3
          refine zr_if_ne (a := 0) (tgt := 39) X dX9_ask_33 (by decide) (by decide) (fun c9 => absurd c9 (by decide)) (fun _ => ?_)
          refine lv_bipush (v := (-7)) X.1 X.2.1 dX9_ask_36 (by decide) ?_
          have e9 : sp_ask 2 t u = ((-7), u) := (by unfold sp_ask; simp only [show zn (2 : Int32) = 2 from rfl, Nat.reduceMul, Nat.reduceAdd]; (first | refine (if_neg (fun h9 => h9 ⟨by decide, by omega⟩)).trans ?_ | refine (if_pos (fun h9 => by obtain ⟨-, h9⟩ := h9; omega)).trans ?_ | refine (if_pos (by omega)).trans ?_); (repeat (first | refine (if_pos (by omega)).trans ?_ | refine (if_neg (by omega)).trans ?_)); rfl)
          exact zr_iret X hW dX9_ask_38 (Nat.le_of_ble_eq_true rfl) (Nat.le_of_ble_eq_true rfl) ⟨by rw [e9], by rw [e9]; exact hR, zc_fr0⟩
      · subst h9
        have h_2 : ¬ (zi_in t 0 1) := h_2
        refine zr_if_ne (a := 0) (tgt := 27) X dX9_ask_22 (by decide) (by decide) (fun c9 => absurd c9 (by decide)) (fun _ => ?_)
        refine lv_iconst (v := (-1)) X.1 X.2.1 dX9_ask_25 (by decide) ?_
        have e9 : sp_ask 2 t u = ((-1), u) := (by unfold sp_ask; simp only [show zn (2 : Int32) = 2 from rfl, Nat.reduceMul, Nat.reduceAdd]; (first | refine (if_neg (fun h9 => h9 ⟨by decide, by omega⟩)).trans ?_ | refine (if_pos (fun h9 => by obtain ⟨-, h9⟩ := h9; omega)).trans ?_ | refine (if_pos (by omega)).trans ?_); (repeat (first | refine (if_pos (by omega)).trans ?_ | refine (if_neg (by omega)).trans ?_)); rfl)
        exact zr_iret X hW dX9_ask_26 (Nat.le_of_ble_eq_true rfl) (Nat.le_of_ble_eq_true rfl) ⟨by rw [e9], by rw [e9]; exact hR, zc_fr0⟩
    · subst h9
      have h_1 : ¬ (0 ≤ (u 23 4).toInt) := h_1
      refine zr_if_eq (a := 0) (tgt := 25) X dX9_ask_15 (by decide) (by decide) (fun _ => ?_) (fun c9 => absurd c9 (by decide))
      refine lv_iconst (v := (-1)) X.1 X.2.1 dX9_ask_25 (by decide) ?_
      have e9 : sp_ask 2 t u = ((-1), u) := (by unfold sp_ask; simp only [show zn (2 : Int32) = 2 from rfl, Nat.reduceMul, Nat.reduceAdd]; (first | refine (if_neg (fun h9 => h9 ⟨by decide, by omega⟩)).trans ?_ | refine (if_pos (fun h9 => by obtain ⟨-, h9⟩ := h9; omega)).trans ?_ | refine (if_pos (by omega)).trans ?_); (repeat (first | refine (if_pos (by omega)).trans ?_ | refine (if_neg (by omega)).trans ?_)); rfl)
      exact zr_iret X hW dX9_ask_26 (Nat.le_of_ble_eq_true rfl) (Nat.le_of_ble_eq_true rfl) ⟨by rw [e9], by rw [e9]; exact hR, zc_fr0⟩
  · subst h8
    subst h9
    refine lv_astore_n (lv' := [(3, .ref (ad 116)), (0, .ref (ad 100)), (1, .int 3), (2, .int t)]) X.1 X.2.1 dX9_ask_5 rfl hl (by decide) rfl (fun ls hl => ?_)
    refine lv_aload_n X.1 X.2.1 dX9_ask_6 rfl (lv_at hl 0 rfl) ?_
    refine lv_ifnull X.1 X.2.1 dX9_ask_7 ?_
    refine lv_aload_n X.1 X.2.1 dX9_ask_10 rfl (lv_at hl 0 rfl) ?_
    refine lv_iconst (v := 0) X.1 X.2.1 dX9_ask_11 (by decide) ?_
    refine zr_callV (As := [.int 0]) (rest := []) X hW hl.1 md_X8_hasCredential ms_X9_134 dX9_ask_12 (zc_s116 hS) rfl rfl rfl rfl (Nat.le_of_ble_eq_true rfl) ⟨Nat.le_of_ble_eq_true rfl, Nat.le_of_ble_eq_true rfl⟩ ⟨Nat.le_of_ble_eq_true rfl, Nat.le_of_ble_eq_true rfl⟩ (c_X8_hasCredential_1_0 l Y N0 ad sh g u hS hN hT) (fun v9 ad9 sh9 g9 H locs hp hW => ?_)
    rcases hp with ⟨rfl, rfl, rfl, ⟨h_41, h9⟩ | ⟨h_41, h9⟩⟩
    · subst h9
      have h_41 : 0 ≤ (u 23 6).toInt := h_41
      refine zr_if_eq (a := 1) (tgt := 25) X dX9_ask_15 (by decide) (by decide) (fun c9 => absurd c9 (by decide)) (fun _ => ?_)
      refine lv_iload_n X.1 X.2.1 dX9_ask_18 rfl (lv_at hl 3 rfl) ?_
      refine zr_callS (As := [.int t]) (rest := []) X hW hl.1 md_X9_isTarget ms_X9_116 dX9_ask_19 rfl rfl (Nat.le_of_ble_eq_true rfl) ⟨Nat.le_of_ble_eq_true rfl, Nat.le_of_ble_eq_true rfl⟩ ⟨Nat.le_of_ble_eq_true rfl, Nat.le_of_ble_eq_true rfl⟩ (c_X9_isTarget l Y N0 ad sh g t) (fun v9 ad9 sh9 g9 H locs hp hW => ?_)
      rcases hp with ⟨rfl, rfl, rfl, ⟨h_42, h9⟩ | ⟨h_42, h9⟩⟩
      · subst h9
        have h_42 : zi_in t 0 1 := h_42
        refine zr_if_ne (a := 1) (tgt := 27) X dX9_ask_22 (by decide) (by decide) (fun _ => ?_) (fun c9 => absurd c9 (by decide))
        refine lv_aload_n X.1 X.2.1 dX9_ask_27 rfl (lv_at hl 1 rfl) ?_
        refine lv_iconst (v := 0) X.1 X.2.1 dX9_ask_28 (by decide) ?_
        refine lv_iconst (v := 1) X.1 X.2.1 dX9_ask_29 (by decide) ?_
        refine zr_callV (As := [.int 0, .int 1]) (rest := []) X hW hl.1 md_X9_hasRoom ms_X9_76 dX9_ask_30 (zc_s100 hS) rfl rfl rfl rfl (Nat.le_of_ble_eq_true rfl) ⟨Nat.le_of_ble_eq_true rfl, Nat.le_of_ble_eq_true rfl⟩ ⟨Nat.le_of_ble_eq_true rfl, Nat.le_of_ble_eq_true rfl⟩ (c_X9_hasRoom_01 l Y N0 ad sh g u hS hN hI) (fun v9 ad9 sh9 g9 H locs hp hW => ?_)
        rcases hp with ⟨rfl, rfl, rfl, ⟨h_43, h9⟩ | ⟨h_43, h9⟩⟩
        · subst h9
          have h_43 : (u 0 2).toInt + 0 ≤ 200 ∧ (u 0 8).toInt + 1 ≤ 150 := h_43
          refine zr_if_ne (a := 1) (tgt := 39) X dX9_ask_33 (by decide) (by decide) (fun _ => ?_) (fun c9 => absurd c9 (by decide))
          refine lv_aload_n X.1 X.2.1 dX9_ask_39 rfl (lv_at hl 0 rfl) ?_
          refine zr_get (r := 116) (v := .ref (ad 136)) X hW fs_X9_137_7 dX9_ask_40 (zc_s116 hS) rfl rfl rfl ?_
          refine lv_iconst (v := 0) X.1 X.2.1 dX9_ask_43 (by decide) ?_
          refine zr_iald (r := 136) (v := u 24 6) X hW dX9_ask_44 (zc_s136 hS) rfl rfl (zi_vp (by decide)) ((show g 136 (0 : Int32).toNatClampNeg = g 136 0 from rfl).trans (hR.2.2.2.1 1 0 (by omega) (by omega) (show ¬ (u 23 6).toInt = -1 by omega))) ?_
          refine lv_istore (lv' := [(4, .int (u 24 6)), (3, .ref (ad 116)), (0, .ref (ad 100)), (1, .int 3), (2, .int t)]) X.1 X.2.1 dX9_ask_45 hl (by decide) rfl (fun ls hl => ?_)
          refine lv_aload_n X.1 X.2.1 dX9_ask_47 rfl (lv_at hl 1 rfl) ?_
          refine lv_aload_n X.1 X.2.1 dX9_ask_48 rfl (lv_at hl 2 rfl) ?_
          refine zr_callV (As := []) (rest := [.ref (ad 116)]) X hW hl.1 md_X9_makeNonce ms_X9_119 dX9_ask_49 (zc_s100 hS) rfl rfl rfl rfl (Nat.le_of_ble_eq_true rfl) ⟨Nat.le_of_ble_eq_true rfl, Nat.le_of_ble_eq_true rfl⟩ ⟨Nat.le_of_ble_eq_true rfl, Nat.le_of_ble_eq_true rfl⟩ (c_X9_makeNonce l Y N0 ad sh g u hS hN) (fun v9 ad9 sh9 g9 H locs hp hW => ?_)
          obtain ⟨rfl, rfl, _, rfl, rfl, rfl⟩ := hp
          obtain ⟨g_45, hg_45⟩ : ∃ z : zm_T, z = zm_w g 100 11 (u 0 19 + 1) := ⟨_, rfl⟩
          rw [← hg_45] at hW
          obtain ⟨u_46, hu_46⟩ : ∃ z : zm_T, z = zm_w u 0 19 (u 0 19 + 1) := ⟨_, rfl⟩
          have hN : zc_N g_45 u_46 := by rw [hg_45, hu_46]; exact zc_Nw hN rfl _
          refine lv_iload_n X.1 X.2.1 dX9_ask_52 rfl (lv_at hl 4 rfl) ?_
          refine lv_iload X.1 X.2.1 dX9_ask_53 (lv_at hl 0 rfl) ?_
          refine zr_callV (As := [.int (u 0 19 + 1), .int t, .int (u 24 6)]) (rest := []) X hW hl.1 md_X8_openRequest ms_X9_122 dX9_ask_55 (zc_s116 hS) rfl rfl rfl rfl (Nat.le_of_ble_eq_true rfl) ⟨Nat.le_of_ble_eq_true rfl, Nat.le_of_ble_eq_true rfl⟩ ⟨Nat.le_of_ble_eq_true rfl, Nat.le_of_ble_eq_true rfl⟩ (c_X8_openRequest_1 l Y N0 ad sh g_45 hS (u 0 19 + 1) t (u 24 6)) (fun v9 ad9 sh9 g9 H locs hp hW => ?_)
          obtain ⟨rfl, rfl, rfl, rfl⟩ := hp
          obtain ⟨g_50, hg_50⟩ : ∃ z : zm_T, z = zm_w g_45 116 0 (u 0 19 + 1) := ⟨_, rfl⟩
          obtain ⟨g_51, hg_51⟩ : ∃ z : zm_T, z = zm_w g_50 116 1 t := ⟨_, rfl⟩
          obtain ⟨g_52, hg_52⟩ : ∃ z : zm_T, z = zm_w g_51 116 2 (u 24 6) := ⟨_, rfl⟩
          rw [← hg_50, ← hg_51, ← hg_52] at hW
          obtain ⟨u_53, hu_53⟩ : ∃ z : zm_T, z = zm_w u_46 20 3 (u 0 19 + 1) := ⟨_, rfl⟩
          have hN : zc_N g_50 u_53 := by rw [hg_50, hu_53]; exact zc_Nw hN rfl _
          obtain ⟨u_54, hu_54⟩ : ∃ z : zm_T, z = zm_w u_53 21 3 t := ⟨_, rfl⟩
          have hN : zc_N g_51 u_54 := by rw [hg_51, hu_54]; exact zc_Nw hN rfl _
          have hN : zc_N g_52 u_54 := by rw [hg_52]; exact zc_Nc hN rfl _
          have hR9 : zc_R sh g_52 (zs_rq u 3 t (u 24 6)) := by rw [hg_52, hg_51, hg_50, hg_45]; exact zc_rqR hR (j := 1) (by omega) t (u 24 6)
          have h8 : 0 ≤ ((zs_rq u 3 t (u 24 6)) 0 8).toInt ∧ ((zs_rq u 3 t (u 24 6)) 0 8).toInt < 150 := (show 0 ≤ (u 0 8).toInt ∧ (u 0 8).toInt < 150 by omega)
          have hsp : sp_ask 3 t u = ((zs_rq u 3 t (u 24 6)) 0 8, zs_mk (zm_w (zs_rq u 3 t (u 24 6)) 25 3 ((zs_rq u 3 t (u 24 6)) 25 3 + 1)) (zs_v 4 ((zs_rq u 3 t (u 24 6)) 24 6) 3 (-1) ((zs_rq u 3 t (u 24 6)) 1 3) ((zs_rq u 3 t (u 24 6)) 25 3 + 1) 0 0 0 0)) := (by unfold sp_ask; simp only [show zn (3 : Int32) = 3 from rfl, Nat.reduceMul, Nat.reduceAdd]; (first | refine (if_neg (fun h9 => h9 ⟨by decide, by omega⟩)).trans ?_ | refine (if_pos (fun h9 => by obtain ⟨-, h9⟩ := h9; omega)).trans ?_ | refine (if_pos (by omega)).trans ?_); (repeat (first | refine (if_pos (by omega)).trans ?_ | refine (if_neg (by omega)).trans ?_)); rfl)
          rw [show u 24 6 = (zs_rq u 3 t (u 24 6)) 24 6 from rfl] at hl
          have hl9 := hl
          clear hl
          have hfr : zc_fr ad sh g ad sh g_52 := zc_fr1 (fun r h => by rw [hg_52, zm_wr (by omega), hg_51, zm_wr (by omega), hg_50, zm_wr (by omega), hg_45, zm_wr (by omega)])
          clear hN hN0
          generalize (zs_rq u 3 t (u 24 6)) = v1 at hR9 h8 hsp hl9
          obtain ⟨u, rfl⟩ : ∃ z : zm_T, z = v1 := ⟨_, rfl⟩
          clear hg_52 hg_51 hg_50 hg_45
          obtain ⟨g, rfl⟩ : ∃ z : zm_T, z = g_52 := ⟨_, rfl⟩
          have hR := hR9
          clear hR9
          have hS := hR.1
          have hN0 := hR.2.1
          have hN := hR.2.1
          have hl := hl9
          refine lv_aload_n X.1 X.2.1 dX9_ask_58 rfl (lv_at hl 2 rfl) ?_
          refine zr_new (ss := [none, none, none, none, some none]) X hW cs_X1 ns_X9_140 dX9_ask_59 ds_X1 (by intro r h; simp at h) (200 + 2 * zn (u 0 8)) (hR.2.2.2.2.2.2.1 (200 + 2 * zn (u 0 8)) (by omega)) (Nat.le_of_ble_eq_true rfl) (Nat.le_of_ble_eq_true rfl) (fun ad_55 H had_55 hW => ?_)
          obtain ⟨sh_56, hsh_56⟩ : ∃ z : Nat → Option zw_Sh, z = va_up sh (200 + 2 * zn (u 0 8)) (some (.inl (1, [none, none, none, none, some none]))) := ⟨_, rfl⟩
          obtain ⟨g_57, hg_57⟩ : ∃ z : zm_T, z = va_up g (200 + 2 * zn (u 0 8)) (fun _ => 0) := ⟨_, rfl⟩
          rw [← hsh_56, ← hg_57] at hW
          have hS : zc_S sh_56 := by rw [hsh_56]; exact zc_S200 (by omega) hS
          have hN : zc_N g_57 u := by rw [hg_57]; exact zc_Nv hN (by omega)
          refine lv_dup X.1 X.2.1 dX9_ask_62 rfl ?_
          refine lv_iload X.1 X.2.1 dX9_ask_63 (lv_at hl 0 rfl) ?_
          refine lv_iload_n X.1 X.2.1 dX9_ask_65 rfl (lv_at hl 3 rfl) ?_
          refine lv_aload_n X.1 X.2.1 dX9_ask_66 rfl (lv_at hl 2 rfl) ?_
          refine zr_get (r := 100) (v := .ref (ad_55 101)) X hW fs_X9_9_8 dX9_ask_67 (zc_s100 hS) (had_55 100 (by omega)) rfl rfl ?_
          refine lv_iload_n X.1 X.2.1 dX9_ask_70 rfl (lv_at hl 3 rfl) ?_
          refine zr_iald (r := 101) (v := u 1 3) X hW dX9_ask_71 (zc_s101 hS) rfl rfl (zi_vp (by decide)) ((show g_57 101 (3 : Int32).toNatClampNeg = g_57 101 3 from rfl).trans ((show g_57 101 3 = g 101 3 from (by rw [hg_57, va_up_ne _ _ (by omega)])).trans (hN0 _ _ _ _ rfl))) ?_
          refine lv_aload_n X.1 X.2.1 dX9_ask_72 rfl (lv_at hl 1 rfl) ?_
          refine zr_callV (As := []) (rest := [.int (u 1 3), .int 3, .int (u 24 6), .ref (ad_55 (200 + 2 * zn (u 0 8))), .ref (ad_55 (200 + 2 * zn (u 0 8))), .ref (ad 100)]) X hW hl.1 md_X8_makeSerial ms_X9_142 dX9_ask_73 (zc_s116 hS) rfl rfl rfl (by rw [(had_55 116 (by omega))] <;> rfl) (Nat.le_of_ble_eq_true rfl) ⟨Nat.le_of_ble_eq_true rfl, Nat.le_of_ble_eq_true rfl⟩ ⟨Nat.le_of_ble_eq_true rfl, Nat.le_of_ble_eq_true rfl⟩ (c_X8_makeSerial_1 l Y N0 ad_55 sh_56 g_57 u hS hN) (fun v9 ad9 sh9 g9 H locs hp hW => ?_)
          obtain ⟨rfl, rfl, _, rfl, rfl, rfl⟩ := hp
          obtain ⟨g_59, hg_59⟩ : ∃ z : zm_T, z = zm_w g_57 116 3 (u 25 3 + 1) := ⟨_, rfl⟩
          rw [← hg_59] at hW
          obtain ⟨u_60, hu_60⟩ : ∃ z : zm_T, z = zm_w u 25 3 (u 25 3 + 1) := ⟨_, rfl⟩
          have hN : zc_N g_59 u_60 := by rw [hg_59, hu_60]; exact zc_Nw hN rfl _
          refine zr_new (ss := [none, none, none]) X hW cs_X3 ns_X9_145 dX9_ask_76 ds_X3 (by intro r h; simp at h) (201 + 2 * zn (u 0 8)) (show sh_56 (201 + 2 * zn (u 0 8)) = none from (by rw [hsh_56]; exact (va_up_ne _ _ (by omega)).trans (hR.2.2.2.2.2.2.1 (201 + 2 * zn (u 0 8)) (by omega)))) (Nat.le_of_ble_eq_true rfl) (Nat.le_of_ble_eq_true rfl) (fun ad_61 H had_61 hW => ?_)
          obtain ⟨sh_62, hsh_62⟩ : ∃ z : Nat → Option zw_Sh, z = va_up sh_56 (201 + 2 * zn (u 0 8)) (some (.inl (3, [none, none, none]))) := ⟨_, rfl⟩
          obtain ⟨g_63, hg_63⟩ : ∃ z : zm_T, z = va_up g_59 (201 + 2 * zn (u 0 8)) (fun _ => 0) := ⟨_, rfl⟩
          rw [← hsh_62, ← hg_63] at hW
          have hS : zc_S sh_62 := by rw [hsh_62]; exact zc_S200 (by omega) hS
          have hN : zc_N g_63 u_60 := by rw [hg_63]; exact zc_Nv hN (by omega)
          refine lv_dup X.1 X.2.1 dX9_ask_79 rfl ?_
          refine lv_iconst (v := 0) X.1 X.2.1 dX9_ask_80 (by decide) ?_
          refine lv_iconst (v := 0) X.1 X.2.1 dX9_ask_81 (by decide) ?_
          refine lv_iconst (v := 0) X.1 X.2.1 dX9_ask_82 (by decide) ?_
          refine zr_callI (As := [.int 0, .int 0, .int 0]) (rest := [.ref (ad_61 (201 + 2 * zn (u 0 8))), .int (u 25 3 + 1), .int (u 1 3), .int 3, .int (u 24 6), .ref (ad_55 (200 + 2 * zn (u 0 8))), .ref (ad_55 (200 + 2 * zn (u 0 8))), .ref (ad 100)]) (b := ad_61 (201 + 2 * zn (u 0 8))) X hW hl.1 md_X3_init ms_X9_147 rfl dX9_ask_83 rfl rfl (Nat.le_of_ble_eq_true rfl) ⟨Nat.le_of_ble_eq_true rfl, Nat.le_of_ble_eq_true rfl⟩ ⟨Nat.le_of_ble_eq_true rfl, Nat.le_of_ble_eq_true rfl⟩ (c_X3_init l Y N0 ad_61 sh_62 g_63 ((201 + 2 * zn (u 0 8))) (show sh_62 (201 + 2 * zn (u 0 8)) = some (.inl (3, [none, none, none])) from (by rw [hsh_62]; exact va_up_self _ _ _)) 0 0 0) (fun v9 ad9 sh9 g9 H locs hp hW => ?_)
          obtain ⟨rfl, rfl, rfl, rfl⟩ := hp
          obtain ⟨g_67, hg_67⟩ : ∃ z : zm_T, z = zm_w g_63 (201 + 2 * zn (u 0 8)) 0 0 := ⟨_, rfl⟩
          obtain ⟨g_68, hg_68⟩ : ∃ z : zm_T, z = zm_w g_67 (201 + 2 * zn (u 0 8)) 1 0 := ⟨_, rfl⟩
          obtain ⟨g_69, hg_69⟩ : ∃ z : zm_T, z = zm_w g_68 (201 + 2 * zn (u 0 8)) 2 0 := ⟨_, rfl⟩
          rw [← hg_67, ← hg_68, ← hg_69] at hW
          have hN : zc_N g_67 u_60 := by rw [hg_67]; exact zc_Nc hN (zc_lm200 (by omega)) _
          have hN : zc_N g_68 u_60 := by rw [hg_68]; exact zc_Nc hN (zc_lm200 (by omega)) _
          have hN : zc_N g_69 u_60 := by rw [hg_69]; exact zc_Nc hN (zc_lm200 (by omega)) _
          refine zr_callI (As := [.int (u 24 6), .int 3, .int (u 1 3), .int (u 25 3 + 1), .ref (ad_61 (201 + 2 * zn (u 0 8)))]) (rest := [.ref (ad_55 (200 + 2 * zn (u 0 8))), .ref (ad 100)]) (b := ad_61 (200 + 2 * zn (u 0 8))) X hW hl.1 md_X1_init ms_X9_148 rfl dX9_ask_86 rfl (by rw [(had_61 ((200 + 2 * zn (u 0 8))) (by omega))] <;> rfl) (Nat.le_of_ble_eq_true rfl) ⟨Nat.le_of_ble_eq_true rfl, Nat.le_of_ble_eq_true rfl⟩ ⟨Nat.le_of_ble_eq_true rfl, Nat.le_of_ble_eq_true rfl⟩ (c_X1_init l Y N0 ad_61 sh_62 g_69 ((200 + 2 * zn (u 0 8))) ((201 + 2 * zn (u 0 8))) (show sh_62 (200 + 2 * zn (u 0 8)) = some (.inl (1, [none, none, none, none, some none])) from (by rw [hsh_62]; exact (va_up_ne _ _ (by omega)).trans (show sh_56 (200 + 2 * zn (u 0 8)) = some (.inl (1, [none, none, none, none, some none])) from (by rw [hsh_56]; exact va_up_self _ _ _)))) (by rw [(show sh_62 (201 + 2 * zn (u 0 8)) = some (.inl (3, [none, none, none])) from (by rw [hsh_62]; exact va_up_self _ _ _))]; simp) (u 24 6) 3 (u 1 3) (u 25 3 + 1)) (fun v9 ad9 sh9 g9 H locs hp hW => ?_)
          obtain ⟨rfl, rfl, rfl, rfl⟩ := hp
          obtain ⟨g_74, hg_74⟩ : ∃ z : zm_T, z = zm_w g_69 (200 + 2 * zn (u 0 8)) 0 (u 24 6) := ⟨_, rfl⟩
          obtain ⟨g_75, hg_75⟩ : ∃ z : zm_T, z = zm_w g_74 (200 + 2 * zn (u 0 8)) 1 3 := ⟨_, rfl⟩
          obtain ⟨g_76, hg_76⟩ : ∃ z : zm_T, z = zm_w g_75 (200 + 2 * zn (u 0 8)) 2 (u 1 3) := ⟨_, rfl⟩
          obtain ⟨g_77, hg_77⟩ : ∃ z : zm_T, z = zm_w g_76 (200 + 2 * zn (u 0 8)) 3 (u 25 3 + 1) := ⟨_, rfl⟩
          rw [← hg_74, ← hg_75, ← hg_76, ← hg_77] at hW
          have hN : zc_N g_74 u_60 := by rw [hg_74]; exact zc_Nc hN (zc_lm200 (by omega)) _
          have hN : zc_N g_75 u_60 := by rw [hg_75]; exact zc_Nc hN (zc_lm200 (by omega)) _
          have hN : zc_N g_76 u_60 := by rw [hg_76]; exact zc_Nc hN (zc_lm200 (by omega)) _
          have hN : zc_N g_77 u_60 := by rw [hg_77]; exact zc_Nc hN (zc_lm200 (by omega)) _
          obtain ⟨sh_78, hsh_78⟩ : ∃ z : Nat → Option zw_Sh, z = va_up sh_62 (200 + 2 * zn (u 0 8)) (some (.inl (1, [none, none, none, none, some (some (201 + 2 * zn (u 0 8)))]))) := ⟨_, rfl⟩
          rw [← hsh_78] at hW
          have hS : zc_S sh_78 := by rw [hsh_78]; exact zc_S200 (by omega) hS
          refine zr_callV (As := [.ref (ad_61 (200 + 2 * zn (u 0 8)))]) (rest := []) X hW hl.1 md_X9_keep ms_X9_130 dX9_ask_89 (zc_s100 hS) rfl rfl rfl (by rw [((had_61 100 (by omega)).trans (had_55 100 (by omega))), (had_61 ((200 + 2 * zn (u 0 8))) (by omega))] <;> rfl) (Nat.le_of_ble_eq_true rfl) ⟨Nat.le_of_ble_eq_true rfl, Nat.le_of_ble_eq_true rfl⟩ ⟨Nat.le_of_ble_eq_true rfl, Nat.le_of_ble_eq_true rfl⟩ (c_X9_keep_1 l Y N0 ad_61 sh_78 g_77 hS (u 0 8) ((show g_77 100 8 = g_76 100 8 from (by rw [hg_77]; exact zm_wn _ _ (Or.inl (by omega)))).trans ((show g_76 100 8 = g_75 100 8 from (by rw [hg_76]; exact zm_wn _ _ (Or.inl (by omega)))).trans ((show g_75 100 8 = g_74 100 8 from (by rw [hg_75]; exact zm_wn _ _ (Or.inl (by omega)))).trans ((show g_74 100 8 = g_69 100 8 from (by rw [hg_74]; exact zm_wn _ _ (Or.inl (by omega)))).trans ((show g_69 100 8 = g_68 100 8 from (by rw [hg_69]; exact zm_wn _ _ (Or.inl (by omega)))).trans ((show g_68 100 8 = g_67 100 8 from (by rw [hg_68]; exact zm_wn _ _ (Or.inl (by omega)))).trans ((show g_67 100 8 = g_63 100 8 from (by rw [hg_67]; exact zm_wn _ _ (Or.inl (by omega)))).trans ((show g_63 100 8 = g_59 100 8 from (by rw [hg_63, va_up_ne _ _ (by omega)])).trans ((show g_59 100 8 = g_57 100 8 from (by rw [hg_59]; rfl)).trans ((show g_57 100 8 = g 100 8 from (by rw [hg_57, va_up_ne _ _ (by omega)])).trans (hN0 _ _ _ _ rfl))))))))))) h8 (show sh_78 107 = some (.inr (3, 150, some (zc_sf (zn (u 0 8))))) from (by rw [hsh_78]; exact (va_up_ne _ _ (by omega)).trans (show sh_62 107 = some (.inr (3, 150, some (zc_sf (zn (u 0 8))))) from (by rw [hsh_62]; exact (va_up_ne _ _ (by omega)).trans (show sh_56 107 = some (.inr (3, 150, some (zc_sf (zn (u 0 8))))) from (by rw [hsh_56]; exact (va_up_ne _ _ (by omega)).trans hR.2.2.2.2.1)))))) (show sh_78 (200 + 2 * zn (u 0 8)) = some (.inl (1, [none, none, none, none, some (some (201 + 2 * zn (u 0 8)))])) from (by rw [hsh_78]; exact va_up_self _ _ _))) (fun v9 ad9 sh9 g9 H locs hp hW => ?_)
          obtain ⟨rfl, rfl, rfl, rfl⟩ := hp
          obtain ⟨sh_79, hsh_79⟩ : ∃ z : Nat → Option zw_Sh, z = va_up sh_78 107 (some (.inr (3, 150, some (zc_sf (zn (u 0 8) + 1))))) := ⟨_, rfl⟩
          obtain ⟨g_80, hg_80⟩ : ∃ z : zm_T, z = zm_w g_77 100 8 (u 0 8 + 1) := ⟨_, rfl⟩
          rw [← hsh_79, ← hg_80] at hW
          have hN9 : zc_N g_80 (zs_mk u_60 (zs_v 4 (u 24 6) 3 (-1) (u 1 3) (u 25 3 + 1) 0 0 0 0)) := by
            have e : u_60 0 8 = u 0 8 := by rw [hu_60]; rfl
            rw [hg_80, ← e]; exact zc_Nmk hN _
          have e8 : zn (u_60 0 8) = zn (u 0 8) := by rw [hu_60]; rfl
          have hu9 : ∀ r i : Nat, (r = 20 ∨ r = 22 ∨ r = 23 ∨ r = 24 ∨ r = 29 ∨ (r = 0 ∧ i = 28) ∨ (9 ≤ r ∧ r ≤ 18 ∧ i ≠ zn (u 0 8))) → zs_mk u_60 (zs_v 4 (u 24 6) 3 (-1) (u 1 3) (u 25 3 + 1) 0 0 0 0) r i = u r i := fun r i h => by
            rw [zs_mku u_60 _ r i (by rw [e8]; exact h)]
            rw [hu_60, zm_wn _ _ (by omega)]
          have hvv : ∀ r : Nat, 9 ≤ r ∧ r ≤ 18 → zs_mk u_60 (zs_v 4 (u 24 6) 3 (-1) (u 1 3) (u 25 3 + 1) 0 0 0 0) r (zn (u 0 8)) = (zs_v 4 (u 24 6) 3 (-1) (u 1 3) (u 25 3 + 1) 0 0 0 0) r := fun r h => by rw [← e8]; exact zs_mkn u_60 _ h
          have hsl9 : zc_sl sh_79 g_80 (zs_mk u_60 (zs_v 4 (u 24 6) 3 (-1) (u 1 3) (u 25 3 + 1) 0 0 0 0)) (zn (u 0 8)) := by
            unfold zc_sl
            rw [hvv 9 (by decide), hvv 10 (by decide), hvv 11 (by decide), hvv 12 (by decide), hvv 13 (by decide), hvv 14 (by decide), hvv 15 (by decide), hvv 16 (by decide), hvv 17 (by decide), hvv 18 (by decide)]
            exact ⟨fun h => absurd (show (4 : Int32).toInt = 1 from h) (by decide), fun h => absurd (show (4 : Int32).toInt = 2 from h) (by decide), fun h => absurd (show (4 : Int32).toInt = 3 from h) (by decide), fun _ => ⟨(show sh_79 (200 + 2 * zn (u 0 8)) = some (.inl (1, [none, none, none, none, some (some (201 + 2 * zn (u 0 8)))])) from (by rw [hsh_79]; exact (va_up_ne _ _ (by omega)).trans (show sh_78 (200 + 2 * zn (u 0 8)) = some (.inl (1, [none, none, none, none, some (some (201 + 2 * zn (u 0 8)))])) from (by rw [hsh_78]; exact va_up_self _ _ _)))), (show sh_79 (201 + 2 * zn (u 0 8)) = some (.inl (3, [none, none, none])) from (by rw [hsh_79]; exact (va_up_ne _ _ (by omega)).trans (show sh_78 (201 + 2 * zn (u 0 8)) = some (.inl (3, [none, none, none])) from (by rw [hsh_78]; exact (va_up_ne _ _ (by omega)).trans (show sh_62 (201 + 2 * zn (u 0 8)) = some (.inl (3, [none, none, none])) from (by rw [hsh_62]; exact va_up_self _ _ _)))))), ((show g_80 (200 + 2 * zn (u 0 8)) 0 = g_77 (200 + 2 * zn (u 0 8)) 0 from (by rw [hg_80, zm_wn _ _ (Or.inl (by omega))])).trans ((show g_77 (200 + 2 * zn (u 0 8)) 0 = g_76 (200 + 2 * zn (u 0 8)) 0 from (by rw [hg_77]; exact zm_wn _ _ (Or.inr (by decide)))).trans ((show g_76 (200 + 2 * zn (u 0 8)) 0 = g_75 (200 + 2 * zn (u 0 8)) 0 from (by rw [hg_76]; exact zm_wn _ _ (Or.inr (by decide)))).trans ((show g_75 (200 + 2 * zn (u 0 8)) 0 = g_74 (200 + 2 * zn (u 0 8)) 0 from (by rw [hg_75]; exact zm_wn _ _ (Or.inr (by decide)))).trans (show g_74 (200 + 2 * zn (u 0 8)) 0 = u 24 6 from (by rw [hg_74]; exact zm_ws _ _ _ _)))))), ((show g_80 (200 + 2 * zn (u 0 8)) 1 = g_77 (200 + 2 * zn (u 0 8)) 1 from (by rw [hg_80, zm_wn _ _ (Or.inl (by omega))])).trans ((show g_77 (200 + 2 * zn (u 0 8)) 1 = g_76 (200 + 2 * zn (u 0 8)) 1 from (by rw [hg_77]; exact zm_wn _ _ (Or.inr (by decide)))).trans ((show g_76 (200 + 2 * zn (u 0 8)) 1 = g_75 (200 + 2 * zn (u 0 8)) 1 from (by rw [hg_76]; exact zm_wn _ _ (Or.inr (by decide)))).trans (show g_75 (200 + 2 * zn (u 0 8)) 1 = 3 from (by rw [hg_75]; exact zm_ws _ _ _ _))))), ((show g_80 (200 + 2 * zn (u 0 8)) 2 = g_77 (200 + 2 * zn (u 0 8)) 2 from (by rw [hg_80, zm_wn _ _ (Or.inl (by omega))])).trans ((show g_77 (200 + 2 * zn (u 0 8)) 2 = g_76 (200 + 2 * zn (u 0 8)) 2 from (by rw [hg_77]; exact zm_wn _ _ (Or.inr (by decide)))).trans (show g_76 (200 + 2 * zn (u 0 8)) 2 = u 1 3 from (by rw [hg_76]; exact zm_ws _ _ _ _)))), ((show g_80 (200 + 2 * zn (u 0 8)) 3 = g_77 (200 + 2 * zn (u 0 8)) 3 from (by rw [hg_80, zm_wn _ _ (Or.inl (by omega))])).trans (show g_77 (200 + 2 * zn (u 0 8)) 3 = u 25 3 + 1 from (by rw [hg_77]; exact zm_ws _ _ _ _))), ((show g_80 (201 + 2 * zn (u 0 8)) 0 = g_77 (201 + 2 * zn (u 0 8)) 0 from (by rw [hg_80, zm_wn _ _ (Or.inl (by omega))])).trans ((show g_77 (201 + 2 * zn (u 0 8)) 0 = g_76 (201 + 2 * zn (u 0 8)) 0 from (by rw [hg_77]; exact zm_wn _ _ (Or.inl (by omega)))).trans ((show g_76 (201 + 2 * zn (u 0 8)) 0 = g_75 (201 + 2 * zn (u 0 8)) 0 from (by rw [hg_76]; exact zm_wn _ _ (Or.inl (by omega)))).trans ((show g_75 (201 + 2 * zn (u 0 8)) 0 = g_74 (201 + 2 * zn (u 0 8)) 0 from (by rw [hg_75]; exact zm_wn _ _ (Or.inl (by omega)))).trans ((show g_74 (201 + 2 * zn (u 0 8)) 0 = g_69 (201 + 2 * zn (u 0 8)) 0 from (by rw [hg_74]; exact zm_wn _ _ (Or.inl (by omega)))).trans ((show g_69 (201 + 2 * zn (u 0 8)) 0 = g_68 (201 + 2 * zn (u 0 8)) 0 from (by rw [hg_69]; exact zm_wn _ _ (Or.inr (by decide)))).trans ((show g_68 (201 + 2 * zn (u 0 8)) 0 = g_67 (201 + 2 * zn (u 0 8)) 0 from (by rw [hg_68]; exact zm_wn _ _ (Or.inr (by decide)))).trans (show g_67 (201 + 2 * zn (u 0 8)) 0 = 0 from (by rw [hg_67]; exact zm_ws _ _ _ _))))))))), ((show g_80 (201 + 2 * zn (u 0 8)) 1 = g_77 (201 + 2 * zn (u 0 8)) 1 from (by rw [hg_80, zm_wn _ _ (Or.inl (by omega))])).trans ((show g_77 (201 + 2 * zn (u 0 8)) 1 = g_76 (201 + 2 * zn (u 0 8)) 1 from (by rw [hg_77]; exact zm_wn _ _ (Or.inl (by omega)))).trans ((show g_76 (201 + 2 * zn (u 0 8)) 1 = g_75 (201 + 2 * zn (u 0 8)) 1 from (by rw [hg_76]; exact zm_wn _ _ (Or.inl (by omega)))).trans ((show g_75 (201 + 2 * zn (u 0 8)) 1 = g_74 (201 + 2 * zn (u 0 8)) 1 from (by rw [hg_75]; exact zm_wn _ _ (Or.inl (by omega)))).trans ((show g_74 (201 + 2 * zn (u 0 8)) 1 = g_69 (201 + 2 * zn (u 0 8)) 1 from (by rw [hg_74]; exact zm_wn _ _ (Or.inl (by omega)))).trans ((show g_69 (201 + 2 * zn (u 0 8)) 1 = g_68 (201 + 2 * zn (u 0 8)) 1 from (by rw [hg_69]; exact zm_wn _ _ (Or.inr (by decide)))).trans (show g_68 (201 + 2 * zn (u 0 8)) 1 = 0 from (by rw [hg_68]; exact zm_ws _ _ _ _)))))))), ((show g_80 (201 + 2 * zn (u 0 8)) 2 = g_77 (201 + 2 * zn (u 0 8)) 2 from (by rw [hg_80, zm_wn _ _ (Or.inl (by omega))])).trans ((show g_77 (201 + 2 * zn (u 0 8)) 2 = g_76 (201 + 2 * zn (u 0 8)) 2 from (by rw [hg_77]; exact zm_wn _ _ (Or.inl (by omega)))).trans ((show g_76 (201 + 2 * zn (u 0 8)) 2 = g_75 (201 + 2 * zn (u 0 8)) 2 from (by rw [hg_76]; exact zm_wn _ _ (Or.inl (by omega)))).trans ((show g_75 (201 + 2 * zn (u 0 8)) 2 = g_74 (201 + 2 * zn (u 0 8)) 2 from (by rw [hg_75]; exact zm_wn _ _ (Or.inl (by omega)))).trans ((show g_74 (201 + 2 * zn (u 0 8)) 2 = g_69 (201 + 2 * zn (u 0 8)) 2 from (by rw [hg_74]; exact zm_wn _ _ (Or.inl (by omega)))).trans (show g_69 (201 + 2 * zn (u 0 8)) 2 = 0 from (by rw [hg_69]; exact zm_ws _ _ _ _)))))))⟩⟩
          have hz9 : zn (zs_mk u_60 (zs_v 4 (u 24 6) 3 (-1) (u 1 3) (u 25 3 + 1) 0 0 0 0) 0 8) = zn (u 0 8) + 1 := by have q9 := zs_mkz (u := u_60) (by rw [hu_60]; exact h8) (zs_v 4 (u 24 6) 3 (-1) (u 1 3) (u 25 3 + 1) 0 0 0 0); rw [q9, e8]
          have hR9 : zc_R sh_79 g_80 (zs_mk u_60 (zs_v 4 (u 24 6) 3 (-1) (u 1 3) (u 25 3 + 1) 0 0 0 0)) := zc_add (n := (zn (u 0 8))) hR rfl hz9 hN9 hu9 (show sh_79 107 = some (.inr (3, 150, some (zc_sf (zn (u 0 8) + 1)))) from (by rw [hsh_79]; exact va_up_self _ _ _)) (fun r h1 h2 h3 => by rw [hsh_79, va_up_ne _ _ (by omega), hsh_78, va_up_ne _ _ (by omega), hsh_62, va_up_ne _ _ (by omega), hsh_56, va_up_ne _ _ (by omega)]) (fun r h1 h2 h3 => by rw [hg_80, zm_wr (by omega), hg_77, zm_wr (by omega), hg_76, zm_wr (by omega), hg_75, zm_wr (by omega), hg_74, zm_wr (by omega), hg_69, zm_wr (by omega), hg_68, zm_wr (by omega), hg_67, zm_wr (by omega), hg_63, va_up_ne _ _ (by omega), hg_59, zm_wr (by omega), hg_57, va_up_ne _ _ (by omega)]) (fun j hj => by rw [hg_80, zm_wn _ _ (by omega), hg_77, zm_wn _ _ (by omega), hg_76, zm_wn _ _ (by omega), hg_75, zm_wn _ _ (by omega), hg_74, zm_wn _ _ (by omega), hg_69, zm_wn _ _ (by omega), hg_68, zm_wn _ _ (by omega), hg_67, zm_wn _ _ (by omega), hg_63, va_up_ne _ _ (by omega), hg_59, zm_wn _ _ (by omega), hg_57, va_up_ne _ _ (by omega)]) hsl9
          have hf9 : zc_fr ad sh g ad_61 sh_79 g_80 := ⟨fun r hr => (had_61 r (by omega)).trans (had_55 r (by omega)), fun r hr => ⟨by rw [hsh_79, va_up_ne _ _ (by omega), hsh_78, va_up_ne _ _ (by omega), hsh_62, va_up_ne _ _ (by omega), hsh_56, va_up_ne _ _ (by omega)], by rw [hg_80, zm_wr (by omega), hg_77, zm_wr (by omega), hg_76, zm_wr (by omega), hg_75, zm_wr (by omega), hg_74, zm_wr (by omega), hg_69, zm_wr (by omega), hg_68, zm_wr (by omega), hg_67, zm_wr (by omega), hg_63, va_up_ne _ _ (by omega), hg_59, zm_wr (by omega), hg_57, va_up_ne _ _ (by omega)]⟩⟩
          have hf8 := hfr
          rw [hu_60] at hR9
          exact zr_iret X hW dX9_ask_92 (Nat.le_of_ble_eq_true rfl) (Nat.le_of_ble_eq_true rfl) ⟨by rw [hsp], by rw [hsp]; exact hR9, ⟨fun r hr => (hf9.1 r hr).trans (hf8.1 r hr), fun r hr => ⟨(hf9.2 r hr).1.trans (hf8.2 r hr).1, (hf9.2 r hr).2.trans (hf8.2 r hr).2⟩⟩⟩
        · subst h9
          have h_43 : ¬ ((u 0 2).toInt + 0 ≤ 200 ∧ (u 0 8).toInt + 1 ≤ 150) := h_43
          refine zr_if_ne (a := 0) (tgt := 39) X dX9_ask_33 (by decide) (by decide) (fun c9 => absurd c9 (by decide)) (fun _ => ?_)
          refine lv_bipush (v := (-7)) X.1 X.2.1 dX9_ask_36 (by decide) ?_
          have e9 : sp_ask 3 t u = ((-7), u) := (by unfold sp_ask; simp only [show zn (3 : Int32) = 3 from rfl, Nat.reduceMul, Nat.reduceAdd]; (first | refine (if_neg (fun h9 => h9 ⟨by decide, by omega⟩)).trans ?_ | refine (if_pos (fun h9 => by obtain ⟨-, h9⟩ := h9; omega)).trans ?_ | refine (if_pos (by omega)).trans ?_); (repeat (first | refine (if_pos (by omega)).trans ?_ | refine (if_neg (by omega)).trans ?_)); rfl)
          exact zr_iret X hW dX9_ask_38 (Nat.le_of_ble_eq_true rfl) (Nat.le_of_ble_eq_true rfl) ⟨by rw [e9], by rw [e9]; exact hR, zc_fr0⟩
      · subst h9
        have h_42 : ¬ (zi_in t 0 1) := h_42
        refine zr_if_ne (a := 0) (tgt := 27) X dX9_ask_22 (by decide) (by decide) (fun c9 => absurd c9 (by decide)) (fun _ => ?_)
        refine lv_iconst (v := (-1)) X.1 X.2.1 dX9_ask_25 (by decide) ?_
        have e9 : sp_ask 3 t u = ((-1), u) := (by unfold sp_ask; simp only [show zn (3 : Int32) = 3 from rfl, Nat.reduceMul, Nat.reduceAdd]; (first | refine (if_neg (fun h9 => h9 ⟨by decide, by omega⟩)).trans ?_ | refine (if_pos (fun h9 => by obtain ⟨-, h9⟩ := h9; omega)).trans ?_ | refine (if_pos (by omega)).trans ?_); (repeat (first | refine (if_pos (by omega)).trans ?_ | refine (if_neg (by omega)).trans ?_)); rfl)
        exact zr_iret X hW dX9_ask_26 (Nat.le_of_ble_eq_true rfl) (Nat.le_of_ble_eq_true rfl) ⟨by rw [e9], by rw [e9]; exact hR, zc_fr0⟩
    · subst h9
      have h_41 : ¬ (0 ≤ (u 23 6).toInt) := h_41
      refine zr_if_eq (a := 0) (tgt := 25) X dX9_ask_15 (by decide) (by decide) (fun _ => ?_) (fun c9 => absurd c9 (by decide))
      refine lv_iconst (v := (-1)) X.1 X.2.1 dX9_ask_25 (by decide) ?_
      have e9 : sp_ask 3 t u = ((-1), u) := (by unfold sp_ask; simp only [show zn (3 : Int32) = 3 from rfl, Nat.reduceMul, Nat.reduceAdd]; (first | refine (if_neg (fun h9 => h9 ⟨by decide, by omega⟩)).trans ?_ | refine (if_pos (fun h9 => by obtain ⟨-, h9⟩ := h9; omega)).trans ?_ | refine (if_pos (by omega)).trans ?_); (repeat (first | refine (if_pos (by omega)).trans ?_ | refine (if_neg (by omega)).trans ?_)); rfl)
      exact zr_iret X hW dX9_ask_26 (Nat.le_of_ble_eq_true rfl) (Nat.le_of_ble_eq_true rfl) ⟨by rw [e9], by rw [e9]; exact hR, zc_fr0⟩
  · subst h8
    subst h9
    refine lv_astore_n (lv' := [(3, .ref (ad 117)), (0, .ref (ad 100)), (1, .int 4), (2, .int t)]) X.1 X.2.1 dX9_ask_5 rfl hl (by decide) rfl (fun ls hl => ?_)
    refine lv_aload_n X.1 X.2.1 dX9_ask_6 rfl (lv_at hl 0 rfl) ?_
    refine lv_ifnull X.1 X.2.1 dX9_ask_7 ?_
    refine lv_aload_n X.1 X.2.1 dX9_ask_10 rfl (lv_at hl 0 rfl) ?_
    refine lv_iconst (v := 0) X.1 X.2.1 dX9_ask_11 (by decide) ?_
    refine zr_callV (As := [.int 0]) (rest := []) X hW hl.1 md_X8_hasCredential ms_X9_134 dX9_ask_12 (zc_s117 hS) rfl rfl rfl rfl (Nat.le_of_ble_eq_true rfl) ⟨Nat.le_of_ble_eq_true rfl, Nat.le_of_ble_eq_true rfl⟩ ⟨Nat.le_of_ble_eq_true rfl, Nat.le_of_ble_eq_true rfl⟩ (c_X8_hasCredential_2_0 l Y N0 ad sh g u hS hN hT) (fun v9 ad9 sh9 g9 H locs hp hW => ?_)
    rcases hp with ⟨rfl, rfl, rfl, ⟨h_81, h9⟩ | ⟨h_81, h9⟩⟩
    · subst h9
      have h_81 : 0 ≤ (u 23 8).toInt := h_81
      refine zr_if_eq (a := 1) (tgt := 25) X dX9_ask_15 (by decide) (by decide) (fun c9 => absurd c9 (by decide)) (fun _ => ?_)
      refine lv_iload_n X.1 X.2.1 dX9_ask_18 rfl (lv_at hl 3 rfl) ?_
      refine zr_callS (As := [.int t]) (rest := []) X hW hl.1 md_X9_isTarget ms_X9_116 dX9_ask_19 rfl rfl (Nat.le_of_ble_eq_true rfl) ⟨Nat.le_of_ble_eq_true rfl, Nat.le_of_ble_eq_true rfl⟩ ⟨Nat.le_of_ble_eq_true rfl, Nat.le_of_ble_eq_true rfl⟩ (c_X9_isTarget l Y N0 ad sh g t) (fun v9 ad9 sh9 g9 H locs hp hW => ?_)
      rcases hp with ⟨rfl, rfl, rfl, ⟨h_82, h9⟩ | ⟨h_82, h9⟩⟩
      · subst h9
        have h_82 : zi_in t 0 1 := h_82
        refine zr_if_ne (a := 1) (tgt := 27) X dX9_ask_22 (by decide) (by decide) (fun _ => ?_) (fun c9 => absurd c9 (by decide))
        refine lv_aload_n X.1 X.2.1 dX9_ask_27 rfl (lv_at hl 1 rfl) ?_
        refine lv_iconst (v := 0) X.1 X.2.1 dX9_ask_28 (by decide) ?_
        refine lv_iconst (v := 1) X.1 X.2.1 dX9_ask_29 (by decide) ?_
        refine zr_callV (As := [.int 0, .int 1]) (rest := []) X hW hl.1 md_X9_hasRoom ms_X9_76 dX9_ask_30 (zc_s100 hS) rfl rfl rfl rfl (Nat.le_of_ble_eq_true rfl) ⟨Nat.le_of_ble_eq_true rfl, Nat.le_of_ble_eq_true rfl⟩ ⟨Nat.le_of_ble_eq_true rfl, Nat.le_of_ble_eq_true rfl⟩ (c_X9_hasRoom_01 l Y N0 ad sh g u hS hN hI) (fun v9 ad9 sh9 g9 H locs hp hW => ?_)
        rcases hp with ⟨rfl, rfl, rfl, ⟨h_83, h9⟩ | ⟨h_83, h9⟩⟩
        · subst h9
          have h_83 : (u 0 2).toInt + 0 ≤ 200 ∧ (u 0 8).toInt + 1 ≤ 150 := h_83
          refine zr_if_ne (a := 1) (tgt := 39) X dX9_ask_33 (by decide) (by decide) (fun _ => ?_) (fun c9 => absurd c9 (by decide))
          refine lv_aload_n X.1 X.2.1 dX9_ask_39 rfl (lv_at hl 0 rfl) ?_
          refine zr_get (r := 117) (v := .ref (ad 138)) X hW fs_X9_137_7 dX9_ask_40 (zc_s117 hS) rfl rfl rfl ?_
          refine lv_iconst (v := 0) X.1 X.2.1 dX9_ask_43 (by decide) ?_
          refine zr_iald (r := 138) (v := u 24 8) X hW dX9_ask_44 (zc_s138 hS) rfl rfl (zi_vp (by decide)) ((show g 138 (0 : Int32).toNatClampNeg = g 138 0 from rfl).trans (hR.2.2.2.1 2 0 (by omega) (by omega) (show ¬ (u 23 8).toInt = -1 by omega))) ?_
          refine lv_istore (lv' := [(4, .int (u 24 8)), (3, .ref (ad 117)), (0, .ref (ad 100)), (1, .int 4), (2, .int t)]) X.1 X.2.1 dX9_ask_45 hl (by decide) rfl (fun ls hl => ?_)
          refine lv_aload_n X.1 X.2.1 dX9_ask_47 rfl (lv_at hl 1 rfl) ?_
          refine lv_aload_n X.1 X.2.1 dX9_ask_48 rfl (lv_at hl 2 rfl) ?_
          refine zr_callV (As := []) (rest := [.ref (ad 117)]) X hW hl.1 md_X9_makeNonce ms_X9_119 dX9_ask_49 (zc_s100 hS) rfl rfl rfl rfl (Nat.le_of_ble_eq_true rfl) ⟨Nat.le_of_ble_eq_true rfl, Nat.le_of_ble_eq_true rfl⟩ ⟨Nat.le_of_ble_eq_true rfl, Nat.le_of_ble_eq_true rfl⟩ (c_X9_makeNonce l Y N0 ad sh g u hS hN) (fun v9 ad9 sh9 g9 H locs hp hW => ?_)
          obtain ⟨rfl, rfl, _, rfl, rfl, rfl⟩ := hp
          obtain ⟨g_85, hg_85⟩ : ∃ z : zm_T, z = zm_w g 100 11 (u 0 19 + 1) := ⟨_, rfl⟩
          rw [← hg_85] at hW
          obtain ⟨u_86, hu_86⟩ : ∃ z : zm_T, z = zm_w u 0 19 (u 0 19 + 1) := ⟨_, rfl⟩
          have hN : zc_N g_85 u_86 := by rw [hg_85, hu_86]; exact zc_Nw hN rfl _
          refine lv_iload_n X.1 X.2.1 dX9_ask_52 rfl (lv_at hl 4 rfl) ?_
          refine lv_iload X.1 X.2.1 dX9_ask_53 (lv_at hl 0 rfl) ?_
          refine zr_callV (As := [.int (u 0 19 + 1), .int t, .int (u 24 8)]) (rest := []) X hW hl.1 md_X8_openRequest ms_X9_122 dX9_ask_55 (zc_s117 hS) rfl rfl rfl rfl (Nat.le_of_ble_eq_true rfl) ⟨Nat.le_of_ble_eq_true rfl, Nat.le_of_ble_eq_true rfl⟩ ⟨Nat.le_of_ble_eq_true rfl, Nat.le_of_ble_eq_true rfl⟩ (c_X8_openRequest_2 l Y N0 ad sh g_85 hS (u 0 19 + 1) t (u 24 8)) (fun v9 ad9 sh9 g9 H locs hp hW => ?_)
          obtain ⟨rfl, rfl, rfl, rfl⟩ := hp
          obtain ⟨g_90, hg_90⟩ : ∃ z : zm_T, z = zm_w g_85 117 0 (u 0 19 + 1) := ⟨_, rfl⟩
          obtain ⟨g_91, hg_91⟩ : ∃ z : zm_T, z = zm_w g_90 117 1 t := ⟨_, rfl⟩
          obtain ⟨g_92, hg_92⟩ : ∃ z : zm_T, z = zm_w g_91 117 2 (u 24 8) := ⟨_, rfl⟩
          rw [← hg_90, ← hg_91, ← hg_92] at hW
          obtain ⟨u_93, hu_93⟩ : ∃ z : zm_T, z = zm_w u_86 20 4 (u 0 19 + 1) := ⟨_, rfl⟩
          have hN : zc_N g_90 u_93 := by rw [hg_90, hu_93]; exact zc_Nw hN rfl _
          obtain ⟨u_94, hu_94⟩ : ∃ z : zm_T, z = zm_w u_93 21 4 t := ⟨_, rfl⟩
          have hN : zc_N g_91 u_94 := by rw [hg_91, hu_94]; exact zc_Nw hN rfl _
          have hN : zc_N g_92 u_94 := by rw [hg_92]; exact zc_Nc hN rfl _
          have hR9 : zc_R sh g_92 (zs_rq u 4 t (u 24 8)) := by rw [hg_92, hg_91, hg_90, hg_85]; exact zc_rqR hR (j := 2) (by omega) t (u 24 8)
          have h8 : 0 ≤ ((zs_rq u 4 t (u 24 8)) 0 8).toInt ∧ ((zs_rq u 4 t (u 24 8)) 0 8).toInt < 150 := (show 0 ≤ (u 0 8).toInt ∧ (u 0 8).toInt < 150 by omega)
          have hsp : sp_ask 4 t u = ((zs_rq u 4 t (u 24 8)) 0 8, zs_mk (zm_w (zs_rq u 4 t (u 24 8)) 25 4 ((zs_rq u 4 t (u 24 8)) 25 4 + 1)) (zs_v 4 ((zs_rq u 4 t (u 24 8)) 24 8) 4 (-1) ((zs_rq u 4 t (u 24 8)) 1 4) ((zs_rq u 4 t (u 24 8)) 25 4 + 1) 0 0 0 0)) := (by unfold sp_ask; simp only [show zn (4 : Int32) = 4 from rfl, Nat.reduceMul, Nat.reduceAdd]; (first | refine (if_neg (fun h9 => h9 ⟨by decide, by omega⟩)).trans ?_ | refine (if_pos (fun h9 => by obtain ⟨-, h9⟩ := h9; omega)).trans ?_ | refine (if_pos (by omega)).trans ?_); (repeat (first | refine (if_pos (by omega)).trans ?_ | refine (if_neg (by omega)).trans ?_)); rfl)
          rw [show u 24 8 = (zs_rq u 4 t (u 24 8)) 24 8 from rfl] at hl
          have hl9 := hl
          clear hl
          have hfr : zc_fr ad sh g ad sh g_92 := zc_fr1 (fun r h => by rw [hg_92, zm_wr (by omega), hg_91, zm_wr (by omega), hg_90, zm_wr (by omega), hg_85, zm_wr (by omega)])
          clear hN hN0
          generalize (zs_rq u 4 t (u 24 8)) = v1 at hR9 h8 hsp hl9
          obtain ⟨u, rfl⟩ : ∃ z : zm_T, z = v1 := ⟨_, rfl⟩
          clear hg_92 hg_91 hg_90 hg_85
          obtain ⟨g, rfl⟩ : ∃ z : zm_T, z = g_92 := ⟨_, rfl⟩
          have hR := hR9
          clear hR9
          have hS := hR.1
          have hN0 := hR.2.1
          have hN := hR.2.1
          have hl := hl9
          refine lv_aload_n X.1 X.2.1 dX9_ask_58 rfl (lv_at hl 2 rfl) ?_
          refine zr_new (ss := [none, none, none, none, some none]) X hW cs_X1 ns_X9_140 dX9_ask_59 ds_X1 (by intro r h; simp at h) (200 + 2 * zn (u 0 8)) (hR.2.2.2.2.2.2.1 (200 + 2 * zn (u 0 8)) (by omega)) (Nat.le_of_ble_eq_true rfl) (Nat.le_of_ble_eq_true rfl) (fun ad_95 H had_95 hW => ?_)
          obtain ⟨sh_96, hsh_96⟩ : ∃ z : Nat → Option zw_Sh, z = va_up sh (200 + 2 * zn (u 0 8)) (some (.inl (1, [none, none, none, none, some none]))) := ⟨_, rfl⟩
          obtain ⟨g_97, hg_97⟩ : ∃ z : zm_T, z = va_up g (200 + 2 * zn (u 0 8)) (fun _ => 0) := ⟨_, rfl⟩
          rw [← hsh_96, ← hg_97] at hW
          have hS : zc_S sh_96 := by rw [hsh_96]; exact zc_S200 (by omega) hS
          have hN : zc_N g_97 u := by rw [hg_97]; exact zc_Nv hN (by omega)
          refine lv_dup X.1 X.2.1 dX9_ask_62 rfl ?_
          refine lv_iload X.1 X.2.1 dX9_ask_63 (lv_at hl 0 rfl) ?_
          refine lv_iload_n X.1 X.2.1 dX9_ask_65 rfl (lv_at hl 3 rfl) ?_
          refine lv_aload_n X.1 X.2.1 dX9_ask_66 rfl (lv_at hl 2 rfl) ?_
          refine zr_get (r := 100) (v := .ref (ad_95 101)) X hW fs_X9_9_8 dX9_ask_67 (zc_s100 hS) (had_95 100 (by omega)) rfl rfl ?_
          refine lv_iload_n X.1 X.2.1 dX9_ask_70 rfl (lv_at hl 3 rfl) ?_
          refine zr_iald (r := 101) (v := u 1 4) X hW dX9_ask_71 (zc_s101 hS) rfl rfl (zi_vp (by decide)) ((show g_97 101 (4 : Int32).toNatClampNeg = g_97 101 4 from rfl).trans ((show g_97 101 4 = g 101 4 from (by rw [hg_97, va_up_ne _ _ (by omega)])).trans (hN0 _ _ _ _ rfl))) ?_
          refine lv_aload_n X.1 X.2.1 dX9_ask_72 rfl (lv_at hl 1 rfl) ?_
          refine zr_callV (As := []) (rest := [.int (u 1 4), .int 4, .int (u 24 8), .ref (ad_95 (200 + 2 * zn (u 0 8))), .ref (ad_95 (200 + 2 * zn (u 0 8))), .ref (ad 100)]) X hW hl.1 md_X8_makeSerial ms_X9_142 dX9_ask_73 (zc_s117 hS) rfl rfl rfl (by rw [(had_95 117 (by omega))] <;> rfl) (Nat.le_of_ble_eq_true rfl) ⟨Nat.le_of_ble_eq_true rfl, Nat.le_of_ble_eq_true rfl⟩ ⟨Nat.le_of_ble_eq_true rfl, Nat.le_of_ble_eq_true rfl⟩ (c_X8_makeSerial_2 l Y N0 ad_95 sh_96 g_97 u hS hN) (fun v9 ad9 sh9 g9 H locs hp hW => ?_)
          obtain ⟨rfl, rfl, _, rfl, rfl, rfl⟩ := hp
          obtain ⟨g_99, hg_99⟩ : ∃ z : zm_T, z = zm_w g_97 117 3 (u 25 4 + 1) := ⟨_, rfl⟩
          rw [← hg_99] at hW
          obtain ⟨u_100, hu_100⟩ : ∃ z : zm_T, z = zm_w u 25 4 (u 25 4 + 1) := ⟨_, rfl⟩
          have hN : zc_N g_99 u_100 := by rw [hg_99, hu_100]; exact zc_Nw hN rfl _
          refine zr_new (ss := [none, none, none]) X hW cs_X3 ns_X9_145 dX9_ask_76 ds_X3 (by intro r h; simp at h) (201 + 2 * zn (u 0 8)) (show sh_96 (201 + 2 * zn (u 0 8)) = none from (by rw [hsh_96]; exact (va_up_ne _ _ (by omega)).trans (hR.2.2.2.2.2.2.1 (201 + 2 * zn (u 0 8)) (by omega)))) (Nat.le_of_ble_eq_true rfl) (Nat.le_of_ble_eq_true rfl) (fun ad_101 H had_101 hW => ?_)
          obtain ⟨sh_102, hsh_102⟩ : ∃ z : Nat → Option zw_Sh, z = va_up sh_96 (201 + 2 * zn (u 0 8)) (some (.inl (3, [none, none, none]))) := ⟨_, rfl⟩
          obtain ⟨g_103, hg_103⟩ : ∃ z : zm_T, z = va_up g_99 (201 + 2 * zn (u 0 8)) (fun _ => 0) := ⟨_, rfl⟩
          rw [← hsh_102, ← hg_103] at hW
          have hS : zc_S sh_102 := by rw [hsh_102]; exact zc_S200 (by omega) hS
          have hN : zc_N g_103 u_100 := by rw [hg_103]; exact zc_Nv hN (by omega)
          refine lv_dup X.1 X.2.1 dX9_ask_79 rfl ?_
          refine lv_iconst (v := 0) X.1 X.2.1 dX9_ask_80 (by decide) ?_
          refine lv_iconst (v := 0) X.1 X.2.1 dX9_ask_81 (by decide) ?_
          refine lv_iconst (v := 0) X.1 X.2.1 dX9_ask_82 (by decide) ?_
          refine zr_callI (As := [.int 0, .int 0, .int 0]) (rest := [.ref (ad_101 (201 + 2 * zn (u 0 8))), .int (u 25 4 + 1), .int (u 1 4), .int 4, .int (u 24 8), .ref (ad_95 (200 + 2 * zn (u 0 8))), .ref (ad_95 (200 + 2 * zn (u 0 8))), .ref (ad 100)]) (b := ad_101 (201 + 2 * zn (u 0 8))) X hW hl.1 md_X3_init ms_X9_147 rfl dX9_ask_83 rfl rfl (Nat.le_of_ble_eq_true rfl) ⟨Nat.le_of_ble_eq_true rfl, Nat.le_of_ble_eq_true rfl⟩ ⟨Nat.le_of_ble_eq_true rfl, Nat.le_of_ble_eq_true rfl⟩ (c_X3_init l Y N0 ad_101 sh_102 g_103 ((201 + 2 * zn (u 0 8))) (show sh_102 (201 + 2 * zn (u 0 8)) = some (.inl (3, [none, none, none])) from (by rw [hsh_102]; exact va_up_self _ _ _)) 0 0 0) (fun v9 ad9 sh9 g9 H locs hp hW => ?_)
          obtain ⟨rfl, rfl, rfl, rfl⟩ := hp
          obtain ⟨g_107, hg_107⟩ : ∃ z : zm_T, z = zm_w g_103 (201 + 2 * zn (u 0 8)) 0 0 := ⟨_, rfl⟩
          obtain ⟨g_108, hg_108⟩ : ∃ z : zm_T, z = zm_w g_107 (201 + 2 * zn (u 0 8)) 1 0 := ⟨_, rfl⟩
          obtain ⟨g_109, hg_109⟩ : ∃ z : zm_T, z = zm_w g_108 (201 + 2 * zn (u 0 8)) 2 0 := ⟨_, rfl⟩
          rw [← hg_107, ← hg_108, ← hg_109] at hW
          have hN : zc_N g_107 u_100 := by rw [hg_107]; exact zc_Nc hN (zc_lm200 (by omega)) _
          have hN : zc_N g_108 u_100 := by rw [hg_108]; exact zc_Nc hN (zc_lm200 (by omega)) _
          have hN : zc_N g_109 u_100 := by rw [hg_109]; exact zc_Nc hN (zc_lm200 (by omega)) _
          refine zr_callI (As := [.int (u 24 8), .int 4, .int (u 1 4), .int (u 25 4 + 1), .ref (ad_101 (201 + 2 * zn (u 0 8)))]) (rest := [.ref (ad_95 (200 + 2 * zn (u 0 8))), .ref (ad 100)]) (b := ad_101 (200 + 2 * zn (u 0 8))) X hW hl.1 md_X1_init ms_X9_148 rfl dX9_ask_86 rfl (by rw [(had_101 ((200 + 2 * zn (u 0 8))) (by omega))] <;> rfl) (Nat.le_of_ble_eq_true rfl) ⟨Nat.le_of_ble_eq_true rfl, Nat.le_of_ble_eq_true rfl⟩ ⟨Nat.le_of_ble_eq_true rfl, Nat.le_of_ble_eq_true rfl⟩ (c_X1_init l Y N0 ad_101 sh_102 g_109 ((200 + 2 * zn (u 0 8))) ((201 + 2 * zn (u 0 8))) (show sh_102 (200 + 2 * zn (u 0 8)) = some (.inl (1, [none, none, none, none, some none])) from (by rw [hsh_102]; exact (va_up_ne _ _ (by omega)).trans (show sh_96 (200 + 2 * zn (u 0 8)) = some (.inl (1, [none, none, none, none, some none])) from (by rw [hsh_96]; exact va_up_self _ _ _)))) (by rw [(show sh_102 (201 + 2 * zn (u 0 8)) = some (.inl (3, [none, none, none])) from (by rw [hsh_102]; exact va_up_self _ _ _))]; simp) (u 24 8) 4 (u 1 4) (u 25 4 + 1)) (fun v9 ad9 sh9 g9 H locs hp hW => ?_)
          obtain ⟨rfl, rfl, rfl, rfl⟩ := hp
          obtain ⟨g_114, hg_114⟩ : ∃ z : zm_T, z = zm_w g_109 (200 + 2 * zn (u 0 8)) 0 (u 24 8) := ⟨_, rfl⟩
          obtain ⟨g_115, hg_115⟩ : ∃ z : zm_T, z = zm_w g_114 (200 + 2 * zn (u 0 8)) 1 4 := ⟨_, rfl⟩
          obtain ⟨g_116, hg_116⟩ : ∃ z : zm_T, z = zm_w g_115 (200 + 2 * zn (u 0 8)) 2 (u 1 4) := ⟨_, rfl⟩
          obtain ⟨g_117, hg_117⟩ : ∃ z : zm_T, z = zm_w g_116 (200 + 2 * zn (u 0 8)) 3 (u 25 4 + 1) := ⟨_, rfl⟩
          rw [← hg_114, ← hg_115, ← hg_116, ← hg_117] at hW
          have hN : zc_N g_114 u_100 := by rw [hg_114]; exact zc_Nc hN (zc_lm200 (by omega)) _
          have hN : zc_N g_115 u_100 := by rw [hg_115]; exact zc_Nc hN (zc_lm200 (by omega)) _
          have hN : zc_N g_116 u_100 := by rw [hg_116]; exact zc_Nc hN (zc_lm200 (by omega)) _
          have hN : zc_N g_117 u_100 := by rw [hg_117]; exact zc_Nc hN (zc_lm200 (by omega)) _
          obtain ⟨sh_118, hsh_118⟩ : ∃ z : Nat → Option zw_Sh, z = va_up sh_102 (200 + 2 * zn (u 0 8)) (some (.inl (1, [none, none, none, none, some (some (201 + 2 * zn (u 0 8)))]))) := ⟨_, rfl⟩
          rw [← hsh_118] at hW
          have hS : zc_S sh_118 := by rw [hsh_118]; exact zc_S200 (by omega) hS
          refine zr_callV (As := [.ref (ad_101 (200 + 2 * zn (u 0 8)))]) (rest := []) X hW hl.1 md_X9_keep ms_X9_130 dX9_ask_89 (zc_s100 hS) rfl rfl rfl (by rw [((had_101 100 (by omega)).trans (had_95 100 (by omega))), (had_101 ((200 + 2 * zn (u 0 8))) (by omega))] <;> rfl) (Nat.le_of_ble_eq_true rfl) ⟨Nat.le_of_ble_eq_true rfl, Nat.le_of_ble_eq_true rfl⟩ ⟨Nat.le_of_ble_eq_true rfl, Nat.le_of_ble_eq_true rfl⟩ (c_X9_keep_1 l Y N0 ad_101 sh_118 g_117 hS (u 0 8) ((show g_117 100 8 = g_116 100 8 from (by rw [hg_117]; exact zm_wn _ _ (Or.inl (by omega)))).trans ((show g_116 100 8 = g_115 100 8 from (by rw [hg_116]; exact zm_wn _ _ (Or.inl (by omega)))).trans ((show g_115 100 8 = g_114 100 8 from (by rw [hg_115]; exact zm_wn _ _ (Or.inl (by omega)))).trans ((show g_114 100 8 = g_109 100 8 from (by rw [hg_114]; exact zm_wn _ _ (Or.inl (by omega)))).trans ((show g_109 100 8 = g_108 100 8 from (by rw [hg_109]; exact zm_wn _ _ (Or.inl (by omega)))).trans ((show g_108 100 8 = g_107 100 8 from (by rw [hg_108]; exact zm_wn _ _ (Or.inl (by omega)))).trans ((show g_107 100 8 = g_103 100 8 from (by rw [hg_107]; exact zm_wn _ _ (Or.inl (by omega)))).trans ((show g_103 100 8 = g_99 100 8 from (by rw [hg_103, va_up_ne _ _ (by omega)])).trans ((show g_99 100 8 = g_97 100 8 from (by rw [hg_99]; rfl)).trans ((show g_97 100 8 = g 100 8 from (by rw [hg_97, va_up_ne _ _ (by omega)])).trans (hN0 _ _ _ _ rfl))))))))))) h8 (show sh_118 107 = some (.inr (3, 150, some (zc_sf (zn (u 0 8))))) from (by rw [hsh_118]; exact (va_up_ne _ _ (by omega)).trans (show sh_102 107 = some (.inr (3, 150, some (zc_sf (zn (u 0 8))))) from (by rw [hsh_102]; exact (va_up_ne _ _ (by omega)).trans (show sh_96 107 = some (.inr (3, 150, some (zc_sf (zn (u 0 8))))) from (by rw [hsh_96]; exact (va_up_ne _ _ (by omega)).trans hR.2.2.2.2.1)))))) (show sh_118 (200 + 2 * zn (u 0 8)) = some (.inl (1, [none, none, none, none, some (some (201 + 2 * zn (u 0 8)))])) from (by rw [hsh_118]; exact va_up_self _ _ _))) (fun v9 ad9 sh9 g9 H locs hp hW => ?_)
          obtain ⟨rfl, rfl, rfl, rfl⟩ := hp
          obtain ⟨sh_119, hsh_119⟩ : ∃ z : Nat → Option zw_Sh, z = va_up sh_118 107 (some (.inr (3, 150, some (zc_sf (zn (u 0 8) + 1))))) := ⟨_, rfl⟩
          obtain ⟨g_120, hg_120⟩ : ∃ z : zm_T, z = zm_w g_117 100 8 (u 0 8 + 1) := ⟨_, rfl⟩
          rw [← hsh_119, ← hg_120] at hW
          have hN9 : zc_N g_120 (zs_mk u_100 (zs_v 4 (u 24 8) 4 (-1) (u 1 4) (u 25 4 + 1) 0 0 0 0)) := by
            have e : u_100 0 8 = u 0 8 := by rw [hu_100]; rfl
            rw [hg_120, ← e]; exact zc_Nmk hN _
          have e8 : zn (u_100 0 8) = zn (u 0 8) := by rw [hu_100]; rfl
          have hu9 : ∀ r i : Nat, (r = 20 ∨ r = 22 ∨ r = 23 ∨ r = 24 ∨ r = 29 ∨ (r = 0 ∧ i = 28) ∨ (9 ≤ r ∧ r ≤ 18 ∧ i ≠ zn (u 0 8))) → zs_mk u_100 (zs_v 4 (u 24 8) 4 (-1) (u 1 4) (u 25 4 + 1) 0 0 0 0) r i = u r i := fun r i h => by
            rw [zs_mku u_100 _ r i (by rw [e8]; exact h)]
            rw [hu_100, zm_wn _ _ (by omega)]
          have hvv : ∀ r : Nat, 9 ≤ r ∧ r ≤ 18 → zs_mk u_100 (zs_v 4 (u 24 8) 4 (-1) (u 1 4) (u 25 4 + 1) 0 0 0 0) r (zn (u 0 8)) = (zs_v 4 (u 24 8) 4 (-1) (u 1 4) (u 25 4 + 1) 0 0 0 0) r := fun r h => by rw [← e8]; exact zs_mkn u_100 _ h
          have hsl9 : zc_sl sh_119 g_120 (zs_mk u_100 (zs_v 4 (u 24 8) 4 (-1) (u 1 4) (u 25 4 + 1) 0 0 0 0)) (zn (u 0 8)) := by
            unfold zc_sl
            rw [hvv 9 (by decide), hvv 10 (by decide), hvv 11 (by decide), hvv 12 (by decide), hvv 13 (by decide), hvv 14 (by decide), hvv 15 (by decide), hvv 16 (by decide), hvv 17 (by decide), hvv 18 (by decide)]
            exact ⟨fun h => absurd (show (4 : Int32).toInt = 1 from h) (by decide), fun h => absurd (show (4 : Int32).toInt = 2 from h) (by decide), fun h => absurd (show (4 : Int32).toInt = 3 from h) (by decide), fun _ => ⟨(show sh_119 (200 + 2 * zn (u 0 8)) = some (.inl (1, [none, none, none, none, some (some (201 + 2 * zn (u 0 8)))])) from (by rw [hsh_119]; exact (va_up_ne _ _ (by omega)).trans (show sh_118 (200 + 2 * zn (u 0 8)) = some (.inl (1, [none, none, none, none, some (some (201 + 2 * zn (u 0 8)))])) from (by rw [hsh_118]; exact va_up_self _ _ _)))), (show sh_119 (201 + 2 * zn (u 0 8)) = some (.inl (3, [none, none, none])) from (by rw [hsh_119]; exact (va_up_ne _ _ (by omega)).trans (show sh_118 (201 + 2 * zn (u 0 8)) = some (.inl (3, [none, none, none])) from (by rw [hsh_118]; exact (va_up_ne _ _ (by omega)).trans (show sh_102 (201 + 2 * zn (u 0 8)) = some (.inl (3, [none, none, none])) from (by rw [hsh_102]; exact va_up_self _ _ _)))))), ((show g_120 (200 + 2 * zn (u 0 8)) 0 = g_117 (200 + 2 * zn (u 0 8)) 0 from (by rw [hg_120, zm_wn _ _ (Or.inl (by omega))])).trans ((show g_117 (200 + 2 * zn (u 0 8)) 0 = g_116 (200 + 2 * zn (u 0 8)) 0 from (by rw [hg_117]; exact zm_wn _ _ (Or.inr (by decide)))).trans ((show g_116 (200 + 2 * zn (u 0 8)) 0 = g_115 (200 + 2 * zn (u 0 8)) 0 from (by rw [hg_116]; exact zm_wn _ _ (Or.inr (by decide)))).trans ((show g_115 (200 + 2 * zn (u 0 8)) 0 = g_114 (200 + 2 * zn (u 0 8)) 0 from (by rw [hg_115]; exact zm_wn _ _ (Or.inr (by decide)))).trans (show g_114 (200 + 2 * zn (u 0 8)) 0 = u 24 8 from (by rw [hg_114]; exact zm_ws _ _ _ _)))))), ((show g_120 (200 + 2 * zn (u 0 8)) 1 = g_117 (200 + 2 * zn (u 0 8)) 1 from (by rw [hg_120, zm_wn _ _ (Or.inl (by omega))])).trans ((show g_117 (200 + 2 * zn (u 0 8)) 1 = g_116 (200 + 2 * zn (u 0 8)) 1 from (by rw [hg_117]; exact zm_wn _ _ (Or.inr (by decide)))).trans ((show g_116 (200 + 2 * zn (u 0 8)) 1 = g_115 (200 + 2 * zn (u 0 8)) 1 from (by rw [hg_116]; exact zm_wn _ _ (Or.inr (by decide)))).trans (show g_115 (200 + 2 * zn (u 0 8)) 1 = 4 from (by rw [hg_115]; exact zm_ws _ _ _ _))))), ((show g_120 (200 + 2 * zn (u 0 8)) 2 = g_117 (200 + 2 * zn (u 0 8)) 2 from (by rw [hg_120, zm_wn _ _ (Or.inl (by omega))])).trans ((show g_117 (200 + 2 * zn (u 0 8)) 2 = g_116 (200 + 2 * zn (u 0 8)) 2 from (by rw [hg_117]; exact zm_wn _ _ (Or.inr (by decide)))).trans (show g_116 (200 + 2 * zn (u 0 8)) 2 = u 1 4 from (by rw [hg_116]; exact zm_ws _ _ _ _)))), ((show g_120 (200 + 2 * zn (u 0 8)) 3 = g_117 (200 + 2 * zn (u 0 8)) 3 from (by rw [hg_120, zm_wn _ _ (Or.inl (by omega))])).trans (show g_117 (200 + 2 * zn (u 0 8)) 3 = u 25 4 + 1 from (by rw [hg_117]; exact zm_ws _ _ _ _))), ((show g_120 (201 + 2 * zn (u 0 8)) 0 = g_117 (201 + 2 * zn (u 0 8)) 0 from (by rw [hg_120, zm_wn _ _ (Or.inl (by omega))])).trans ((show g_117 (201 + 2 * zn (u 0 8)) 0 = g_116 (201 + 2 * zn (u 0 8)) 0 from (by rw [hg_117]; exact zm_wn _ _ (Or.inl (by omega)))).trans ((show g_116 (201 + 2 * zn (u 0 8)) 0 = g_115 (201 + 2 * zn (u 0 8)) 0 from (by rw [hg_116]; exact zm_wn _ _ (Or.inl (by omega)))).trans ((show g_115 (201 + 2 * zn (u 0 8)) 0 = g_114 (201 + 2 * zn (u 0 8)) 0 from (by rw [hg_115]; exact zm_wn _ _ (Or.inl (by omega)))).trans ((show g_114 (201 + 2 * zn (u 0 8)) 0 = g_109 (201 + 2 * zn (u 0 8)) 0 from (by rw [hg_114]; exact zm_wn _ _ (Or.inl (by omega)))).trans ((show g_109 (201 + 2 * zn (u 0 8)) 0 = g_108 (201 + 2 * zn (u 0 8)) 0 from (by rw [hg_109]; exact zm_wn _ _ (Or.inr (by decide)))).trans ((show g_108 (201 + 2 * zn (u 0 8)) 0 = g_107 (201 + 2 * zn (u 0 8)) 0 from (by rw [hg_108]; exact zm_wn _ _ (Or.inr (by decide)))).trans (show g_107 (201 + 2 * zn (u 0 8)) 0 = 0 from (by rw [hg_107]; exact zm_ws _ _ _ _))))))))), ((show g_120 (201 + 2 * zn (u 0 8)) 1 = g_117 (201 + 2 * zn (u 0 8)) 1 from (by rw [hg_120, zm_wn _ _ (Or.inl (by omega))])).trans ((show g_117 (201 + 2 * zn (u 0 8)) 1 = g_116 (201 + 2 * zn (u 0 8)) 1 from (by rw [hg_117]; exact zm_wn _ _ (Or.inl (by omega)))).trans ((show g_116 (201 + 2 * zn (u 0 8)) 1 = g_115 (201 + 2 * zn (u 0 8)) 1 from (by rw [hg_116]; exact zm_wn _ _ (Or.inl (by omega)))).trans ((show g_115 (201 + 2 * zn (u 0 8)) 1 = g_114 (201 + 2 * zn (u 0 8)) 1 from (by rw [hg_115]; exact zm_wn _ _ (Or.inl (by omega)))).trans ((show g_114 (201 + 2 * zn (u 0 8)) 1 = g_109 (201 + 2 * zn (u 0 8)) 1 from (by rw [hg_114]; exact zm_wn _ _ (Or.inl (by omega)))).trans ((show g_109 (201 + 2 * zn (u 0 8)) 1 = g_108 (201 + 2 * zn (u 0 8)) 1 from (by rw [hg_109]; exact zm_wn _ _ (Or.inr (by decide)))).trans (show g_108 (201 + 2 * zn (u 0 8)) 1 = 0 from (by rw [hg_108]; exact zm_ws _ _ _ _)))))))), ((show g_120 (201 + 2 * zn (u 0 8)) 2 = g_117 (201 + 2 * zn (u 0 8)) 2 from (by rw [hg_120, zm_wn _ _ (Or.inl (by omega))])).trans ((show g_117 (201 + 2 * zn (u 0 8)) 2 = g_116 (201 + 2 * zn (u 0 8)) 2 from (by rw [hg_117]; exact zm_wn _ _ (Or.inl (by omega)))).trans ((show g_116 (201 + 2 * zn (u 0 8)) 2 = g_115 (201 + 2 * zn (u 0 8)) 2 from (by rw [hg_116]; exact zm_wn _ _ (Or.inl (by omega)))).trans ((show g_115 (201 + 2 * zn (u 0 8)) 2 = g_114 (201 + 2 * zn (u 0 8)) 2 from (by rw [hg_115]; exact zm_wn _ _ (Or.inl (by omega)))).trans ((show g_114 (201 + 2 * zn (u 0 8)) 2 = g_109 (201 + 2 * zn (u 0 8)) 2 from (by rw [hg_114]; exact zm_wn _ _ (Or.inl (by omega)))).trans (show g_109 (201 + 2 * zn (u 0 8)) 2 = 0 from (by rw [hg_109]; exact zm_ws _ _ _ _)))))))⟩⟩
          have hz9 : zn (zs_mk u_100 (zs_v 4 (u 24 8) 4 (-1) (u 1 4) (u 25 4 + 1) 0 0 0 0) 0 8) = zn (u 0 8) + 1 := by have q9 := zs_mkz (u := u_100) (by rw [hu_100]; exact h8) (zs_v 4 (u 24 8) 4 (-1) (u 1 4) (u 25 4 + 1) 0 0 0 0); rw [q9, e8]
          have hR9 : zc_R sh_119 g_120 (zs_mk u_100 (zs_v 4 (u 24 8) 4 (-1) (u 1 4) (u 25 4 + 1) 0 0 0 0)) := zc_add (n := (zn (u 0 8))) hR rfl hz9 hN9 hu9 (show sh_119 107 = some (.inr (3, 150, some (zc_sf (zn (u 0 8) + 1)))) from (by rw [hsh_119]; exact va_up_self _ _ _)) (fun r h1 h2 h3 => by rw [hsh_119, va_up_ne _ _ (by omega), hsh_118, va_up_ne _ _ (by omega), hsh_102, va_up_ne _ _ (by omega), hsh_96, va_up_ne _ _ (by omega)]) (fun r h1 h2 h3 => by rw [hg_120, zm_wr (by omega), hg_117, zm_wr (by omega), hg_116, zm_wr (by omega), hg_115, zm_wr (by omega), hg_114, zm_wr (by omega), hg_109, zm_wr (by omega), hg_108, zm_wr (by omega), hg_107, zm_wr (by omega), hg_103, va_up_ne _ _ (by omega), hg_99, zm_wr (by omega), hg_97, va_up_ne _ _ (by omega)]) (fun j hj => by rw [hg_120, zm_wn _ _ (by omega), hg_117, zm_wn _ _ (by omega), hg_116, zm_wn _ _ (by omega), hg_115, zm_wn _ _ (by omega), hg_114, zm_wn _ _ (by omega), hg_109, zm_wn _ _ (by omega), hg_108, zm_wn _ _ (by omega), hg_107, zm_wn _ _ (by omega), hg_103, va_up_ne _ _ (by omega), hg_99, zm_wn _ _ (by omega), hg_97, va_up_ne _ _ (by omega)]) hsl9
          have hf9 : zc_fr ad sh g ad_101 sh_119 g_120 := ⟨fun r hr => (had_101 r (by omega)).trans (had_95 r (by omega)), fun r hr => ⟨by rw [hsh_119, va_up_ne _ _ (by omega), hsh_118, va_up_ne _ _ (by omega), hsh_102, va_up_ne _ _ (by omega), hsh_96, va_up_ne _ _ (by omega)], by rw [hg_120, zm_wr (by omega), hg_117, zm_wr (by omega), hg_116, zm_wr (by omega), hg_115, zm_wr (by omega), hg_114, zm_wr (by omega), hg_109, zm_wr (by omega), hg_108, zm_wr (by omega), hg_107, zm_wr (by omega), hg_103, va_up_ne _ _ (by omega), hg_99, zm_wr (by omega), hg_97, va_up_ne _ _ (by omega)]⟩⟩
          have hf8 := hfr
          rw [hu_100] at hR9
          exact zr_iret X hW dX9_ask_92 (Nat.le_of_ble_eq_true rfl) (Nat.le_of_ble_eq_true rfl) ⟨by rw [hsp], by rw [hsp]; exact hR9, ⟨fun r hr => (hf9.1 r hr).trans (hf8.1 r hr), fun r hr => ⟨(hf9.2 r hr).1.trans (hf8.2 r hr).1, (hf9.2 r hr).2.trans (hf8.2 r hr).2⟩⟩⟩
        · subst h9
          have h_83 : ¬ ((u 0 2).toInt + 0 ≤ 200 ∧ (u 0 8).toInt + 1 ≤ 150) := h_83
          refine zr_if_ne (a := 0) (tgt := 39) X dX9_ask_33 (by decide) (by decide) (fun c9 => absurd c9 (by decide)) (fun _ => ?_)
          refine lv_bipush (v := (-7)) X.1 X.2.1 dX9_ask_36 (by decide) ?_
          have e9 : sp_ask 4 t u = ((-7), u) := (by unfold sp_ask; simp only [show zn (4 : Int32) = 4 from rfl, Nat.reduceMul, Nat.reduceAdd]; (first | refine (if_neg (fun h9 => h9 ⟨by decide, by omega⟩)).trans ?_ | refine (if_pos (fun h9 => by obtain ⟨-, h9⟩ := h9; omega)).trans ?_ | refine (if_pos (by omega)).trans ?_); (repeat (first | refine (if_pos (by omega)).trans ?_ | refine (if_neg (by omega)).trans ?_)); rfl)
          exact zr_iret X hW dX9_ask_38 (Nat.le_of_ble_eq_true rfl) (Nat.le_of_ble_eq_true rfl) ⟨by rw [e9], by rw [e9]; exact hR, zc_fr0⟩
      · subst h9
        have h_82 : ¬ (zi_in t 0 1) := h_82
        refine zr_if_ne (a := 0) (tgt := 27) X dX9_ask_22 (by decide) (by decide) (fun c9 => absurd c9 (by decide)) (fun _ => ?_)
        refine lv_iconst (v := (-1)) X.1 X.2.1 dX9_ask_25 (by decide) ?_
        have e9 : sp_ask 4 t u = ((-1), u) := (by unfold sp_ask; simp only [show zn (4 : Int32) = 4 from rfl, Nat.reduceMul, Nat.reduceAdd]; (first | refine (if_neg (fun h9 => h9 ⟨by decide, by omega⟩)).trans ?_ | refine (if_pos (fun h9 => by obtain ⟨-, h9⟩ := h9; omega)).trans ?_ | refine (if_pos (by omega)).trans ?_); (repeat (first | refine (if_pos (by omega)).trans ?_ | refine (if_neg (by omega)).trans ?_)); rfl)
        exact zr_iret X hW dX9_ask_26 (Nat.le_of_ble_eq_true rfl) (Nat.le_of_ble_eq_true rfl) ⟨by rw [e9], by rw [e9]; exact hR, zc_fr0⟩
    · subst h9
      have h_81 : ¬ (0 ≤ (u 23 8).toInt) := h_81
      refine zr_if_eq (a := 0) (tgt := 25) X dX9_ask_15 (by decide) (by decide) (fun _ => ?_) (fun c9 => absurd c9 (by decide))
      refine lv_iconst (v := (-1)) X.1 X.2.1 dX9_ask_25 (by decide) ?_
      have e9 : sp_ask 4 t u = ((-1), u) := (by unfold sp_ask; simp only [show zn (4 : Int32) = 4 from rfl, Nat.reduceMul, Nat.reduceAdd]; (first | refine (if_neg (fun h9 => h9 ⟨by decide, by omega⟩)).trans ?_ | refine (if_pos (fun h9 => by obtain ⟨-, h9⟩ := h9; omega)).trans ?_ | refine (if_pos (by omega)).trans ?_); (repeat (first | refine (if_pos (by omega)).trans ?_ | refine (if_neg (by omega)).trans ?_)); rfl)
      exact zr_iret X hW dX9_ask_26 (Nat.le_of_ble_eq_true rfl) (Nat.le_of_ble_eq_true rfl) ⟨by rw [e9], by rw [e9]; exact hR, zc_fr0⟩
  · subst h8
    subst h9
    refine lv_astore_n (lv' := [(3, .ref (ad 118)), (0, .ref (ad 100)), (1, .int 5), (2, .int t)]) X.1 X.2.1 dX9_ask_5 rfl hl (by decide) rfl (fun ls hl => ?_)
    refine lv_aload_n X.1 X.2.1 dX9_ask_6 rfl (lv_at hl 0 rfl) ?_
    refine lv_ifnull X.1 X.2.1 dX9_ask_7 ?_
    refine lv_aload_n X.1 X.2.1 dX9_ask_10 rfl (lv_at hl 0 rfl) ?_
    refine lv_iconst (v := 0) X.1 X.2.1 dX9_ask_11 (by decide) ?_
    refine zr_callV (As := [.int 0]) (rest := []) X hW hl.1 md_X8_hasCredential ms_X9_134 dX9_ask_12 (zc_s118 hS) rfl rfl rfl rfl (Nat.le_of_ble_eq_true rfl) ⟨Nat.le_of_ble_eq_true rfl, Nat.le_of_ble_eq_true rfl⟩ ⟨Nat.le_of_ble_eq_true rfl, Nat.le_of_ble_eq_true rfl⟩ (c_X8_hasCredential_3_0 l Y N0 ad sh g u hS hN hT) (fun v9 ad9 sh9 g9 H locs hp hW => ?_)
    rcases hp with ⟨rfl, rfl, rfl, ⟨h_121, h9⟩ | ⟨h_121, h9⟩⟩
    · subst h9
      have h_121 : 0 ≤ (u 23 10).toInt := h_121
      refine zr_if_eq (a := 1) (tgt := 25) X dX9_ask_15 (by decide) (by decide) (fun c9 => absurd c9 (by decide)) (fun _ => ?_)
      refine lv_iload_n X.1 X.2.1 dX9_ask_18 rfl (lv_at hl 3 rfl) ?_
      refine zr_callS (As := [.int t]) (rest := []) X hW hl.1 md_X9_isTarget ms_X9_116 dX9_ask_19 rfl rfl (Nat.le_of_ble_eq_true rfl) ⟨Nat.le_of_ble_eq_true rfl, Nat.le_of_ble_eq_true rfl⟩ ⟨Nat.le_of_ble_eq_true rfl, Nat.le_of_ble_eq_true rfl⟩ (c_X9_isTarget l Y N0 ad sh g t) (fun v9 ad9 sh9 g9 H locs hp hW => ?_)
      rcases hp with ⟨rfl, rfl, rfl, ⟨h_122, h9⟩ | ⟨h_122, h9⟩⟩
      · subst h9
        have h_122 : zi_in t 0 1 := h_122
        refine zr_if_ne (a := 1) (tgt := 27) X dX9_ask_22 (by decide) (by decide) (fun _ => ?_) (fun c9 => absurd c9 (by decide))
        refine lv_aload_n X.1 X.2.1 dX9_ask_27 rfl (lv_at hl 1 rfl) ?_
        refine lv_iconst (v := 0) X.1 X.2.1 dX9_ask_28 (by decide) ?_
        refine lv_iconst (v := 1) X.1 X.2.1 dX9_ask_29 (by decide) ?_
        refine zr_callV (As := [.int 0, .int 1]) (rest := []) X hW hl.1 md_X9_hasRoom ms_X9_76 dX9_ask_30 (zc_s100 hS) rfl rfl rfl rfl (Nat.le_of_ble_eq_true rfl) ⟨Nat.le_of_ble_eq_true rfl, Nat.le_of_ble_eq_true rfl⟩ ⟨Nat.le_of_ble_eq_true rfl, Nat.le_of_ble_eq_true rfl⟩ (c_X9_hasRoom_01 l Y N0 ad sh g u hS hN hI) (fun v9 ad9 sh9 g9 H locs hp hW => ?_)
        rcases hp with ⟨rfl, rfl, rfl, ⟨h_123, h9⟩ | ⟨h_123, h9⟩⟩
        · subst h9
          have h_123 : (u 0 2).toInt + 0 ≤ 200 ∧ (u 0 8).toInt + 1 ≤ 150 := h_123
          refine zr_if_ne (a := 1) (tgt := 39) X dX9_ask_33 (by decide) (by decide) (fun _ => ?_) (fun c9 => absurd c9 (by decide))
          refine lv_aload_n X.1 X.2.1 dX9_ask_39 rfl (lv_at hl 0 rfl) ?_
          refine zr_get (r := 118) (v := .ref (ad 140)) X hW fs_X9_137_7 dX9_ask_40 (zc_s118 hS) rfl rfl rfl ?_
          refine lv_iconst (v := 0) X.1 X.2.1 dX9_ask_43 (by decide) ?_
          refine zr_iald (r := 140) (v := u 24 10) X hW dX9_ask_44 (zc_s140 hS) rfl rfl (zi_vp (by decide)) ((show g 140 (0 : Int32).toNatClampNeg = g 140 0 from rfl).trans (hR.2.2.2.1 3 0 (by omega) (by omega) (show ¬ (u 23 10).toInt = -1 by omega))) ?_
          refine lv_istore (lv' := [(4, .int (u 24 10)), (3, .ref (ad 118)), (0, .ref (ad 100)), (1, .int 5), (2, .int t)]) X.1 X.2.1 dX9_ask_45 hl (by decide) rfl (fun ls hl => ?_)
          refine lv_aload_n X.1 X.2.1 dX9_ask_47 rfl (lv_at hl 1 rfl) ?_
          refine lv_aload_n X.1 X.2.1 dX9_ask_48 rfl (lv_at hl 2 rfl) ?_
          refine zr_callV (As := []) (rest := [.ref (ad 118)]) X hW hl.1 md_X9_makeNonce ms_X9_119 dX9_ask_49 (zc_s100 hS) rfl rfl rfl rfl (Nat.le_of_ble_eq_true rfl) ⟨Nat.le_of_ble_eq_true rfl, Nat.le_of_ble_eq_true rfl⟩ ⟨Nat.le_of_ble_eq_true rfl, Nat.le_of_ble_eq_true rfl⟩ (c_X9_makeNonce l Y N0 ad sh g u hS hN) (fun v9 ad9 sh9 g9 H locs hp hW => ?_)
          obtain ⟨rfl, rfl, _, rfl, rfl, rfl⟩ := hp
          obtain ⟨g_125, hg_125⟩ : ∃ z : zm_T, z = zm_w g 100 11 (u 0 19 + 1) := ⟨_, rfl⟩
          rw [← hg_125] at hW
          obtain ⟨u_126, hu_126⟩ : ∃ z : zm_T, z = zm_w u 0 19 (u 0 19 + 1) := ⟨_, rfl⟩
          have hN : zc_N g_125 u_126 := by rw [hg_125, hu_126]; exact zc_Nw hN rfl _
          refine lv_iload_n X.1 X.2.1 dX9_ask_52 rfl (lv_at hl 4 rfl) ?_
          refine lv_iload X.1 X.2.1 dX9_ask_53 (lv_at hl 0 rfl) ?_
          refine zr_callV (As := [.int (u 0 19 + 1), .int t, .int (u 24 10)]) (rest := []) X hW hl.1 md_X8_openRequest ms_X9_122 dX9_ask_55 (zc_s118 hS) rfl rfl rfl rfl (Nat.le_of_ble_eq_true rfl) ⟨Nat.le_of_ble_eq_true rfl, Nat.le_of_ble_eq_true rfl⟩ ⟨Nat.le_of_ble_eq_true rfl, Nat.le_of_ble_eq_true rfl⟩ (c_X8_openRequest_3 l Y N0 ad sh g_125 hS (u 0 19 + 1) t (u 24 10)) (fun v9 ad9 sh9 g9 H locs hp hW => ?_)
          obtain ⟨rfl, rfl, rfl, rfl⟩ := hp
          obtain ⟨g_130, hg_130⟩ : ∃ z : zm_T, z = zm_w g_125 118 0 (u 0 19 + 1) := ⟨_, rfl⟩
          obtain ⟨g_131, hg_131⟩ : ∃ z : zm_T, z = zm_w g_130 118 1 t := ⟨_, rfl⟩
          obtain ⟨g_132, hg_132⟩ : ∃ z : zm_T, z = zm_w g_131 118 2 (u 24 10) := ⟨_, rfl⟩
          rw [← hg_130, ← hg_131, ← hg_132] at hW
          obtain ⟨u_133, hu_133⟩ : ∃ z : zm_T, z = zm_w u_126 20 5 (u 0 19 + 1) := ⟨_, rfl⟩
          have hN : zc_N g_130 u_133 := by rw [hg_130, hu_133]; exact zc_Nw hN rfl _
          obtain ⟨u_134, hu_134⟩ : ∃ z : zm_T, z = zm_w u_133 21 5 t := ⟨_, rfl⟩
          have hN : zc_N g_131 u_134 := by rw [hg_131, hu_134]; exact zc_Nw hN rfl _
          have hN : zc_N g_132 u_134 := by rw [hg_132]; exact zc_Nc hN rfl _
          have hR9 : zc_R sh g_132 (zs_rq u 5 t (u 24 10)) := by rw [hg_132, hg_131, hg_130, hg_125]; exact zc_rqR hR (j := 3) (by omega) t (u 24 10)
          have h8 : 0 ≤ ((zs_rq u 5 t (u 24 10)) 0 8).toInt ∧ ((zs_rq u 5 t (u 24 10)) 0 8).toInt < 150 := (show 0 ≤ (u 0 8).toInt ∧ (u 0 8).toInt < 150 by omega)
          have hsp : sp_ask 5 t u = ((zs_rq u 5 t (u 24 10)) 0 8, zs_mk (zm_w (zs_rq u 5 t (u 24 10)) 25 5 ((zs_rq u 5 t (u 24 10)) 25 5 + 1)) (zs_v 4 ((zs_rq u 5 t (u 24 10)) 24 10) 5 (-1) ((zs_rq u 5 t (u 24 10)) 1 5) ((zs_rq u 5 t (u 24 10)) 25 5 + 1) 0 0 0 0)) := (by unfold sp_ask; simp only [show zn (5 : Int32) = 5 from rfl, Nat.reduceMul, Nat.reduceAdd]; (first | refine (if_neg (fun h9 => h9 ⟨by decide, by omega⟩)).trans ?_ | refine (if_pos (fun h9 => by obtain ⟨-, h9⟩ := h9; omega)).trans ?_ | refine (if_pos (by omega)).trans ?_); (repeat (first | refine (if_pos (by omega)).trans ?_ | refine (if_neg (by omega)).trans ?_)); rfl)
          rw [show u 24 10 = (zs_rq u 5 t (u 24 10)) 24 10 from rfl] at hl
          have hl9 := hl
          clear hl
          have hfr : zc_fr ad sh g ad sh g_132 := zc_fr1 (fun r h => by rw [hg_132, zm_wr (by omega), hg_131, zm_wr (by omega), hg_130, zm_wr (by omega), hg_125, zm_wr (by omega)])
          clear hN hN0
          generalize (zs_rq u 5 t (u 24 10)) = v1 at hR9 h8 hsp hl9
          obtain ⟨u, rfl⟩ : ∃ z : zm_T, z = v1 := ⟨_, rfl⟩
          clear hg_132 hg_131 hg_130 hg_125
          obtain ⟨g, rfl⟩ : ∃ z : zm_T, z = g_132 := ⟨_, rfl⟩
          have hR := hR9
          clear hR9
          have hS := hR.1
          have hN0 := hR.2.1
          have hN := hR.2.1
          have hl := hl9
          refine lv_aload_n X.1 X.2.1 dX9_ask_58 rfl (lv_at hl 2 rfl) ?_
          refine zr_new (ss := [none, none, none, none, some none]) X hW cs_X1 ns_X9_140 dX9_ask_59 ds_X1 (by intro r h; simp at h) (200 + 2 * zn (u 0 8)) (hR.2.2.2.2.2.2.1 (200 + 2 * zn (u 0 8)) (by omega)) (Nat.le_of_ble_eq_true rfl) (Nat.le_of_ble_eq_true rfl) (fun ad_135 H had_135 hW => ?_)
          obtain ⟨sh_136, hsh_136⟩ : ∃ z : Nat → Option zw_Sh, z = va_up sh (200 + 2 * zn (u 0 8)) (some (.inl (1, [none, none, none, none, some none]))) := ⟨_, rfl⟩
          obtain ⟨g_137, hg_137⟩ : ∃ z : zm_T, z = va_up g (200 + 2 * zn (u 0 8)) (fun _ => 0) := ⟨_, rfl⟩
          rw [← hsh_136, ← hg_137] at hW
          have hS : zc_S sh_136 := by rw [hsh_136]; exact zc_S200 (by omega) hS
          have hN : zc_N g_137 u := by rw [hg_137]; exact zc_Nv hN (by omega)
          refine lv_dup X.1 X.2.1 dX9_ask_62 rfl ?_
          refine lv_iload X.1 X.2.1 dX9_ask_63 (lv_at hl 0 rfl) ?_
          refine lv_iload_n X.1 X.2.1 dX9_ask_65 rfl (lv_at hl 3 rfl) ?_
          refine lv_aload_n X.1 X.2.1 dX9_ask_66 rfl (lv_at hl 2 rfl) ?_
          refine zr_get (r := 100) (v := .ref (ad_135 101)) X hW fs_X9_9_8 dX9_ask_67 (zc_s100 hS) (had_135 100 (by omega)) rfl rfl ?_
          refine lv_iload_n X.1 X.2.1 dX9_ask_70 rfl (lv_at hl 3 rfl) ?_
          refine zr_iald (r := 101) (v := u 1 5) X hW dX9_ask_71 (zc_s101 hS) rfl rfl (zi_vp (by decide)) ((show g_137 101 (5 : Int32).toNatClampNeg = g_137 101 5 from rfl).trans ((show g_137 101 5 = g 101 5 from (by rw [hg_137, va_up_ne _ _ (by omega)])).trans (hN0 _ _ _ _ rfl))) ?_
          refine lv_aload_n X.1 X.2.1 dX9_ask_72 rfl (lv_at hl 1 rfl) ?_
          refine zr_callV (As := []) (rest := [.int (u 1 5), .int 5, .int (u 24 10), .ref (ad_135 (200 + 2 * zn (u 0 8))), .ref (ad_135 (200 + 2 * zn (u 0 8))), .ref (ad 100)]) X hW hl.1 md_X8_makeSerial ms_X9_142 dX9_ask_73 (zc_s118 hS) rfl rfl rfl (by rw [(had_135 118 (by omega))] <;> rfl) (Nat.le_of_ble_eq_true rfl) ⟨Nat.le_of_ble_eq_true rfl, Nat.le_of_ble_eq_true rfl⟩ ⟨Nat.le_of_ble_eq_true rfl, Nat.le_of_ble_eq_true rfl⟩ (c_X8_makeSerial_3 l Y N0 ad_135 sh_136 g_137 u hS hN) (fun v9 ad9 sh9 g9 H locs hp hW => ?_)
          obtain ⟨rfl, rfl, _, rfl, rfl, rfl⟩ := hp
          obtain ⟨g_139, hg_139⟩ : ∃ z : zm_T, z = zm_w g_137 118 3 (u 25 5 + 1) := ⟨_, rfl⟩
          rw [← hg_139] at hW
          obtain ⟨u_140, hu_140⟩ : ∃ z : zm_T, z = zm_w u 25 5 (u 25 5 + 1) := ⟨_, rfl⟩
          have hN : zc_N g_139 u_140 := by rw [hg_139, hu_140]; exact zc_Nw hN rfl _
          refine zr_new (ss := [none, none, none]) X hW cs_X3 ns_X9_145 dX9_ask_76 ds_X3 (by intro r h; simp at h) (201 + 2 * zn (u 0 8)) (show sh_136 (201 + 2 * zn (u 0 8)) = none from (by rw [hsh_136]; exact (va_up_ne _ _ (by omega)).trans (hR.2.2.2.2.2.2.1 (201 + 2 * zn (u 0 8)) (by omega)))) (Nat.le_of_ble_eq_true rfl) (Nat.le_of_ble_eq_true rfl) (fun ad_141 H had_141 hW => ?_)
          obtain ⟨sh_142, hsh_142⟩ : ∃ z : Nat → Option zw_Sh, z = va_up sh_136 (201 + 2 * zn (u 0 8)) (some (.inl (3, [none, none, none]))) := ⟨_, rfl⟩
          obtain ⟨g_143, hg_143⟩ : ∃ z : zm_T, z = va_up g_139 (201 + 2 * zn (u 0 8)) (fun _ => 0) := ⟨_, rfl⟩
          rw [← hsh_142, ← hg_143] at hW
          have hS : zc_S sh_142 := by rw [hsh_142]; exact zc_S200 (by omega) hS
          have hN : zc_N g_143 u_140 := by rw [hg_143]; exact zc_Nv hN (by omega)
          refine lv_dup X.1 X.2.1 dX9_ask_79 rfl ?_
          refine lv_iconst (v := 0) X.1 X.2.1 dX9_ask_80 (by decide) ?_
          refine lv_iconst (v := 0) X.1 X.2.1 dX9_ask_81 (by decide) ?_
          refine lv_iconst (v := 0) X.1 X.2.1 dX9_ask_82 (by decide) ?_
          refine zr_callI (As := [.int 0, .int 0, .int 0]) (rest := [.ref (ad_141 (201 + 2 * zn (u 0 8))), .int (u 25 5 + 1), .int (u 1 5), .int 5, .int (u 24 10), .ref (ad_135 (200 + 2 * zn (u 0 8))), .ref (ad_135 (200 + 2 * zn (u 0 8))), .ref (ad 100)]) (b := ad_141 (201 + 2 * zn (u 0 8))) X hW hl.1 md_X3_init ms_X9_147 rfl dX9_ask_83 rfl rfl (Nat.le_of_ble_eq_true rfl) ⟨Nat.le_of_ble_eq_true rfl, Nat.le_of_ble_eq_true rfl⟩ ⟨Nat.le_of_ble_eq_true rfl, Nat.le_of_ble_eq_true rfl⟩ (c_X3_init l Y N0 ad_141 sh_142 g_143 ((201 + 2 * zn (u 0 8))) (show sh_142 (201 + 2 * zn (u 0 8)) = some (.inl (3, [none, none, none])) from (by rw [hsh_142]; exact va_up_self _ _ _)) 0 0 0) (fun v9 ad9 sh9 g9 H locs hp hW => ?_)
          obtain ⟨rfl, rfl, rfl, rfl⟩ := hp
          obtain ⟨g_147, hg_147⟩ : ∃ z : zm_T, z = zm_w g_143 (201 + 2 * zn (u 0 8)) 0 0 := ⟨_, rfl⟩
          obtain ⟨g_148, hg_148⟩ : ∃ z : zm_T, z = zm_w g_147 (201 + 2 * zn (u 0 8)) 1 0 := ⟨_, rfl⟩
          obtain ⟨g_149, hg_149⟩ : ∃ z : zm_T, z = zm_w g_148 (201 + 2 * zn (u 0 8)) 2 0 := ⟨_, rfl⟩
          rw [← hg_147, ← hg_148, ← hg_149] at hW
          have hN : zc_N g_147 u_140 := by rw [hg_147]; exact zc_Nc hN (zc_lm200 (by omega)) _
          have hN : zc_N g_148 u_140 := by rw [hg_148]; exact zc_Nc hN (zc_lm200 (by omega)) _
          have hN : zc_N g_149 u_140 := by rw [hg_149]; exact zc_Nc hN (zc_lm200 (by omega)) _
          refine zr_callI (As := [.int (u 24 10), .int 5, .int (u 1 5), .int (u 25 5 + 1), .ref (ad_141 (201 + 2 * zn (u 0 8)))]) (rest := [.ref (ad_135 (200 + 2 * zn (u 0 8))), .ref (ad 100)]) (b := ad_141 (200 + 2 * zn (u 0 8))) X hW hl.1 md_X1_init ms_X9_148 rfl dX9_ask_86 rfl (by rw [(had_141 ((200 + 2 * zn (u 0 8))) (by omega))] <;> rfl) (Nat.le_of_ble_eq_true rfl) ⟨Nat.le_of_ble_eq_true rfl, Nat.le_of_ble_eq_true rfl⟩ ⟨Nat.le_of_ble_eq_true rfl, Nat.le_of_ble_eq_true rfl⟩ (c_X1_init l Y N0 ad_141 sh_142 g_149 ((200 + 2 * zn (u 0 8))) ((201 + 2 * zn (u 0 8))) (show sh_142 (200 + 2 * zn (u 0 8)) = some (.inl (1, [none, none, none, none, some none])) from (by rw [hsh_142]; exact (va_up_ne _ _ (by omega)).trans (show sh_136 (200 + 2 * zn (u 0 8)) = some (.inl (1, [none, none, none, none, some none])) from (by rw [hsh_136]; exact va_up_self _ _ _)))) (by rw [(show sh_142 (201 + 2 * zn (u 0 8)) = some (.inl (3, [none, none, none])) from (by rw [hsh_142]; exact va_up_self _ _ _))]; simp) (u 24 10) 5 (u 1 5) (u 25 5 + 1)) (fun v9 ad9 sh9 g9 H locs hp hW => ?_)
          obtain ⟨rfl, rfl, rfl, rfl⟩ := hp
          obtain ⟨g_154, hg_154⟩ : ∃ z : zm_T, z = zm_w g_149 (200 + 2 * zn (u 0 8)) 0 (u 24 10) := ⟨_, rfl⟩
          obtain ⟨g_155, hg_155⟩ : ∃ z : zm_T, z = zm_w g_154 (200 + 2 * zn (u 0 8)) 1 5 := ⟨_, rfl⟩
          obtain ⟨g_156, hg_156⟩ : ∃ z : zm_T, z = zm_w g_155 (200 + 2 * zn (u 0 8)) 2 (u 1 5) := ⟨_, rfl⟩
          obtain ⟨g_157, hg_157⟩ : ∃ z : zm_T, z = zm_w g_156 (200 + 2 * zn (u 0 8)) 3 (u 25 5 + 1) := ⟨_, rfl⟩
          rw [← hg_154, ← hg_155, ← hg_156, ← hg_157] at hW
          have hN : zc_N g_154 u_140 := by rw [hg_154]; exact zc_Nc hN (zc_lm200 (by omega)) _
          have hN : zc_N g_155 u_140 := by rw [hg_155]; exact zc_Nc hN (zc_lm200 (by omega)) _
          have hN : zc_N g_156 u_140 := by rw [hg_156]; exact zc_Nc hN (zc_lm200 (by omega)) _
          have hN : zc_N g_157 u_140 := by rw [hg_157]; exact zc_Nc hN (zc_lm200 (by omega)) _
          obtain ⟨sh_158, hsh_158⟩ : ∃ z : Nat → Option zw_Sh, z = va_up sh_142 (200 + 2 * zn (u 0 8)) (some (.inl (1, [none, none, none, none, some (some (201 + 2 * zn (u 0 8)))]))) := ⟨_, rfl⟩
          rw [← hsh_158] at hW
          have hS : zc_S sh_158 := by rw [hsh_158]; exact zc_S200 (by omega) hS
          refine zr_callV (As := [.ref (ad_141 (200 + 2 * zn (u 0 8)))]) (rest := []) X hW hl.1 md_X9_keep ms_X9_130 dX9_ask_89 (zc_s100 hS) rfl rfl rfl (by rw [((had_141 100 (by omega)).trans (had_135 100 (by omega))), (had_141 ((200 + 2 * zn (u 0 8))) (by omega))] <;> rfl) (Nat.le_of_ble_eq_true rfl) ⟨Nat.le_of_ble_eq_true rfl, Nat.le_of_ble_eq_true rfl⟩ ⟨Nat.le_of_ble_eq_true rfl, Nat.le_of_ble_eq_true rfl⟩ (c_X9_keep_1 l Y N0 ad_141 sh_158 g_157 hS (u 0 8) ((show g_157 100 8 = g_156 100 8 from (by rw [hg_157]; exact zm_wn _ _ (Or.inl (by omega)))).trans ((show g_156 100 8 = g_155 100 8 from (by rw [hg_156]; exact zm_wn _ _ (Or.inl (by omega)))).trans ((show g_155 100 8 = g_154 100 8 from (by rw [hg_155]; exact zm_wn _ _ (Or.inl (by omega)))).trans ((show g_154 100 8 = g_149 100 8 from (by rw [hg_154]; exact zm_wn _ _ (Or.inl (by omega)))).trans ((show g_149 100 8 = g_148 100 8 from (by rw [hg_149]; exact zm_wn _ _ (Or.inl (by omega)))).trans ((show g_148 100 8 = g_147 100 8 from (by rw [hg_148]; exact zm_wn _ _ (Or.inl (by omega)))).trans ((show g_147 100 8 = g_143 100 8 from (by rw [hg_147]; exact zm_wn _ _ (Or.inl (by omega)))).trans ((show g_143 100 8 = g_139 100 8 from (by rw [hg_143, va_up_ne _ _ (by omega)])).trans ((show g_139 100 8 = g_137 100 8 from (by rw [hg_139]; rfl)).trans ((show g_137 100 8 = g 100 8 from (by rw [hg_137, va_up_ne _ _ (by omega)])).trans (hN0 _ _ _ _ rfl))))))))))) h8 (show sh_158 107 = some (.inr (3, 150, some (zc_sf (zn (u 0 8))))) from (by rw [hsh_158]; exact (va_up_ne _ _ (by omega)).trans (show sh_142 107 = some (.inr (3, 150, some (zc_sf (zn (u 0 8))))) from (by rw [hsh_142]; exact (va_up_ne _ _ (by omega)).trans (show sh_136 107 = some (.inr (3, 150, some (zc_sf (zn (u 0 8))))) from (by rw [hsh_136]; exact (va_up_ne _ _ (by omega)).trans hR.2.2.2.2.1)))))) (show sh_158 (200 + 2 * zn (u 0 8)) = some (.inl (1, [none, none, none, none, some (some (201 + 2 * zn (u 0 8)))])) from (by rw [hsh_158]; exact va_up_self _ _ _))) (fun v9 ad9 sh9 g9 H locs hp hW => ?_)
          obtain ⟨rfl, rfl, rfl, rfl⟩ := hp
          obtain ⟨sh_159, hsh_159⟩ : ∃ z : Nat → Option zw_Sh, z = va_up sh_158 107 (some (.inr (3, 150, some (zc_sf (zn (u 0 8) + 1))))) := ⟨_, rfl⟩
          obtain ⟨g_160, hg_160⟩ : ∃ z : zm_T, z = zm_w g_157 100 8 (u 0 8 + 1) := ⟨_, rfl⟩
          rw [← hsh_159, ← hg_160] at hW
          have hN9 : zc_N g_160 (zs_mk u_140 (zs_v 4 (u 24 10) 5 (-1) (u 1 5) (u 25 5 + 1) 0 0 0 0)) := by
            have e : u_140 0 8 = u 0 8 := by rw [hu_140]; rfl
            rw [hg_160, ← e]; exact zc_Nmk hN _
          have e8 : zn (u_140 0 8) = zn (u 0 8) := by rw [hu_140]; rfl
          have hu9 : ∀ r i : Nat, (r = 20 ∨ r = 22 ∨ r = 23 ∨ r = 24 ∨ r = 29 ∨ (r = 0 ∧ i = 28) ∨ (9 ≤ r ∧ r ≤ 18 ∧ i ≠ zn (u 0 8))) → zs_mk u_140 (zs_v 4 (u 24 10) 5 (-1) (u 1 5) (u 25 5 + 1) 0 0 0 0) r i = u r i := fun r i h => by
            rw [zs_mku u_140 _ r i (by rw [e8]; exact h)]
            rw [hu_140, zm_wn _ _ (by omega)]
          have hvv : ∀ r : Nat, 9 ≤ r ∧ r ≤ 18 → zs_mk u_140 (zs_v 4 (u 24 10) 5 (-1) (u 1 5) (u 25 5 + 1) 0 0 0 0) r (zn (u 0 8)) = (zs_v 4 (u 24 10) 5 (-1) (u 1 5) (u 25 5 + 1) 0 0 0 0) r := fun r h => by rw [← e8]; exact zs_mkn u_140 _ h
          have hsl9 : zc_sl sh_159 g_160 (zs_mk u_140 (zs_v 4 (u 24 10) 5 (-1) (u 1 5) (u 25 5 + 1) 0 0 0 0)) (zn (u 0 8)) := by
            unfold zc_sl
            rw [hvv 9 (by decide), hvv 10 (by decide), hvv 11 (by decide), hvv 12 (by decide), hvv 13 (by decide), hvv 14 (by decide), hvv 15 (by decide), hvv 16 (by decide), hvv 17 (by decide), hvv 18 (by decide)]
            exact ⟨fun h => absurd (show (4 : Int32).toInt = 1 from h) (by decide), fun h => absurd (show (4 : Int32).toInt = 2 from h) (by decide), fun h => absurd (show (4 : Int32).toInt = 3 from h) (by decide), fun _ => ⟨(show sh_159 (200 + 2 * zn (u 0 8)) = some (.inl (1, [none, none, none, none, some (some (201 + 2 * zn (u 0 8)))])) from (by rw [hsh_159]; exact (va_up_ne _ _ (by omega)).trans (show sh_158 (200 + 2 * zn (u 0 8)) = some (.inl (1, [none, none, none, none, some (some (201 + 2 * zn (u 0 8)))])) from (by rw [hsh_158]; exact va_up_self _ _ _)))), (show sh_159 (201 + 2 * zn (u 0 8)) = some (.inl (3, [none, none, none])) from (by rw [hsh_159]; exact (va_up_ne _ _ (by omega)).trans (show sh_158 (201 + 2 * zn (u 0 8)) = some (.inl (3, [none, none, none])) from (by rw [hsh_158]; exact (va_up_ne _ _ (by omega)).trans (show sh_142 (201 + 2 * zn (u 0 8)) = some (.inl (3, [none, none, none])) from (by rw [hsh_142]; exact va_up_self _ _ _)))))), ((show g_160 (200 + 2 * zn (u 0 8)) 0 = g_157 (200 + 2 * zn (u 0 8)) 0 from (by rw [hg_160, zm_wn _ _ (Or.inl (by omega))])).trans ((show g_157 (200 + 2 * zn (u 0 8)) 0 = g_156 (200 + 2 * zn (u 0 8)) 0 from (by rw [hg_157]; exact zm_wn _ _ (Or.inr (by decide)))).trans ((show g_156 (200 + 2 * zn (u 0 8)) 0 = g_155 (200 + 2 * zn (u 0 8)) 0 from (by rw [hg_156]; exact zm_wn _ _ (Or.inr (by decide)))).trans ((show g_155 (200 + 2 * zn (u 0 8)) 0 = g_154 (200 + 2 * zn (u 0 8)) 0 from (by rw [hg_155]; exact zm_wn _ _ (Or.inr (by decide)))).trans (show g_154 (200 + 2 * zn (u 0 8)) 0 = u 24 10 from (by rw [hg_154]; exact zm_ws _ _ _ _)))))), ((show g_160 (200 + 2 * zn (u 0 8)) 1 = g_157 (200 + 2 * zn (u 0 8)) 1 from (by rw [hg_160, zm_wn _ _ (Or.inl (by omega))])).trans ((show g_157 (200 + 2 * zn (u 0 8)) 1 = g_156 (200 + 2 * zn (u 0 8)) 1 from (by rw [hg_157]; exact zm_wn _ _ (Or.inr (by decide)))).trans ((show g_156 (200 + 2 * zn (u 0 8)) 1 = g_155 (200 + 2 * zn (u 0 8)) 1 from (by rw [hg_156]; exact zm_wn _ _ (Or.inr (by decide)))).trans (show g_155 (200 + 2 * zn (u 0 8)) 1 = 5 from (by rw [hg_155]; exact zm_ws _ _ _ _))))), ((show g_160 (200 + 2 * zn (u 0 8)) 2 = g_157 (200 + 2 * zn (u 0 8)) 2 from (by rw [hg_160, zm_wn _ _ (Or.inl (by omega))])).trans ((show g_157 (200 + 2 * zn (u 0 8)) 2 = g_156 (200 + 2 * zn (u 0 8)) 2 from (by rw [hg_157]; exact zm_wn _ _ (Or.inr (by decide)))).trans (show g_156 (200 + 2 * zn (u 0 8)) 2 = u 1 5 from (by rw [hg_156]; exact zm_ws _ _ _ _)))), ((show g_160 (200 + 2 * zn (u 0 8)) 3 = g_157 (200 + 2 * zn (u 0 8)) 3 from (by rw [hg_160, zm_wn _ _ (Or.inl (by omega))])).trans (show g_157 (200 + 2 * zn (u 0 8)) 3 = u 25 5 + 1 from (by rw [hg_157]; exact zm_ws _ _ _ _))), ((show g_160 (201 + 2 * zn (u 0 8)) 0 = g_157 (201 + 2 * zn (u 0 8)) 0 from (by rw [hg_160, zm_wn _ _ (Or.inl (by omega))])).trans ((show g_157 (201 + 2 * zn (u 0 8)) 0 = g_156 (201 + 2 * zn (u 0 8)) 0 from (by rw [hg_157]; exact zm_wn _ _ (Or.inl (by omega)))).trans ((show g_156 (201 + 2 * zn (u 0 8)) 0 = g_155 (201 + 2 * zn (u 0 8)) 0 from (by rw [hg_156]; exact zm_wn _ _ (Or.inl (by omega)))).trans ((show g_155 (201 + 2 * zn (u 0 8)) 0 = g_154 (201 + 2 * zn (u 0 8)) 0 from (by rw [hg_155]; exact zm_wn _ _ (Or.inl (by omega)))).trans ((show g_154 (201 + 2 * zn (u 0 8)) 0 = g_149 (201 + 2 * zn (u 0 8)) 0 from (by rw [hg_154]; exact zm_wn _ _ (Or.inl (by omega)))).trans ((show g_149 (201 + 2 * zn (u 0 8)) 0 = g_148 (201 + 2 * zn (u 0 8)) 0 from (by rw [hg_149]; exact zm_wn _ _ (Or.inr (by decide)))).trans ((show g_148 (201 + 2 * zn (u 0 8)) 0 = g_147 (201 + 2 * zn (u 0 8)) 0 from (by rw [hg_148]; exact zm_wn _ _ (Or.inr (by decide)))).trans (show g_147 (201 + 2 * zn (u 0 8)) 0 = 0 from (by rw [hg_147]; exact zm_ws _ _ _ _))))))))), ((show g_160 (201 + 2 * zn (u 0 8)) 1 = g_157 (201 + 2 * zn (u 0 8)) 1 from (by rw [hg_160, zm_wn _ _ (Or.inl (by omega))])).trans ((show g_157 (201 + 2 * zn (u 0 8)) 1 = g_156 (201 + 2 * zn (u 0 8)) 1 from (by rw [hg_157]; exact zm_wn _ _ (Or.inl (by omega)))).trans ((show g_156 (201 + 2 * zn (u 0 8)) 1 = g_155 (201 + 2 * zn (u 0 8)) 1 from (by rw [hg_156]; exact zm_wn _ _ (Or.inl (by omega)))).trans ((show g_155 (201 + 2 * zn (u 0 8)) 1 = g_154 (201 + 2 * zn (u 0 8)) 1 from (by rw [hg_155]; exact zm_wn _ _ (Or.inl (by omega)))).trans ((show g_154 (201 + 2 * zn (u 0 8)) 1 = g_149 (201 + 2 * zn (u 0 8)) 1 from (by rw [hg_154]; exact zm_wn _ _ (Or.inl (by omega)))).trans ((show g_149 (201 + 2 * zn (u 0 8)) 1 = g_148 (201 + 2 * zn (u 0 8)) 1 from (by rw [hg_149]; exact zm_wn _ _ (Or.inr (by decide)))).trans (show g_148 (201 + 2 * zn (u 0 8)) 1 = 0 from (by rw [hg_148]; exact zm_ws _ _ _ _)))))))), ((show g_160 (201 + 2 * zn (u 0 8)) 2 = g_157 (201 + 2 * zn (u 0 8)) 2 from (by rw [hg_160, zm_wn _ _ (Or.inl (by omega))])).trans ((show g_157 (201 + 2 * zn (u 0 8)) 2 = g_156 (201 + 2 * zn (u 0 8)) 2 from (by rw [hg_157]; exact zm_wn _ _ (Or.inl (by omega)))).trans ((show g_156 (201 + 2 * zn (u 0 8)) 2 = g_155 (201 + 2 * zn (u 0 8)) 2 from (by rw [hg_156]; exact zm_wn _ _ (Or.inl (by omega)))).trans ((show g_155 (201 + 2 * zn (u 0 8)) 2 = g_154 (201 + 2 * zn (u 0 8)) 2 from (by rw [hg_155]; exact zm_wn _ _ (Or.inl (by omega)))).trans ((show g_154 (201 + 2 * zn (u 0 8)) 2 = g_149 (201 + 2 * zn (u 0 8)) 2 from (by rw [hg_154]; exact zm_wn _ _ (Or.inl (by omega)))).trans (show g_149 (201 + 2 * zn (u 0 8)) 2 = 0 from (by rw [hg_149]; exact zm_ws _ _ _ _)))))))⟩⟩
          have hz9 : zn (zs_mk u_140 (zs_v 4 (u 24 10) 5 (-1) (u 1 5) (u 25 5 + 1) 0 0 0 0) 0 8) = zn (u 0 8) + 1 := by have q9 := zs_mkz (u := u_140) (by rw [hu_140]; exact h8) (zs_v 4 (u 24 10) 5 (-1) (u 1 5) (u 25 5 + 1) 0 0 0 0); rw [q9, e8]
          have hR9 : zc_R sh_159 g_160 (zs_mk u_140 (zs_v 4 (u 24 10) 5 (-1) (u 1 5) (u 25 5 + 1) 0 0 0 0)) := zc_add (n := (zn (u 0 8))) hR rfl hz9 hN9 hu9 (show sh_159 107 = some (.inr (3, 150, some (zc_sf (zn (u 0 8) + 1)))) from (by rw [hsh_159]; exact va_up_self _ _ _)) (fun r h1 h2 h3 => by rw [hsh_159, va_up_ne _ _ (by omega), hsh_158, va_up_ne _ _ (by omega), hsh_142, va_up_ne _ _ (by omega), hsh_136, va_up_ne _ _ (by omega)]) (fun r h1 h2 h3 => by rw [hg_160, zm_wr (by omega), hg_157, zm_wr (by omega), hg_156, zm_wr (by omega), hg_155, zm_wr (by omega), hg_154, zm_wr (by omega), hg_149, zm_wr (by omega), hg_148, zm_wr (by omega), hg_147, zm_wr (by omega), hg_143, va_up_ne _ _ (by omega), hg_139, zm_wr (by omega), hg_137, va_up_ne _ _ (by omega)]) (fun j hj => by rw [hg_160, zm_wn _ _ (by omega), hg_157, zm_wn _ _ (by omega), hg_156, zm_wn _ _ (by omega), hg_155, zm_wn _ _ (by omega), hg_154, zm_wn _ _ (by omega), hg_149, zm_wn _ _ (by omega), hg_148, zm_wn _ _ (by omega), hg_147, zm_wn _ _ (by omega), hg_143, va_up_ne _ _ (by omega), hg_139, zm_wn _ _ (by omega), hg_137, va_up_ne _ _ (by omega)]) hsl9
          have hf9 : zc_fr ad sh g ad_141 sh_159 g_160 := ⟨fun r hr => (had_141 r (by omega)).trans (had_135 r (by omega)), fun r hr => ⟨by rw [hsh_159, va_up_ne _ _ (by omega), hsh_158, va_up_ne _ _ (by omega), hsh_142, va_up_ne _ _ (by omega), hsh_136, va_up_ne _ _ (by omega)], by rw [hg_160, zm_wr (by omega), hg_157, zm_wr (by omega), hg_156, zm_wr (by omega), hg_155, zm_wr (by omega), hg_154, zm_wr (by omega), hg_149, zm_wr (by omega), hg_148, zm_wr (by omega), hg_147, zm_wr (by omega), hg_143, va_up_ne _ _ (by omega), hg_139, zm_wr (by omega), hg_137, va_up_ne _ _ (by omega)]⟩⟩
          have hf8 := hfr
          rw [hu_140] at hR9
          exact zr_iret X hW dX9_ask_92 (Nat.le_of_ble_eq_true rfl) (Nat.le_of_ble_eq_true rfl) ⟨by rw [hsp], by rw [hsp]; exact hR9, ⟨fun r hr => (hf9.1 r hr).trans (hf8.1 r hr), fun r hr => ⟨(hf9.2 r hr).1.trans (hf8.2 r hr).1, (hf9.2 r hr).2.trans (hf8.2 r hr).2⟩⟩⟩
        · subst h9
          have h_123 : ¬ ((u 0 2).toInt + 0 ≤ 200 ∧ (u 0 8).toInt + 1 ≤ 150) := h_123
          refine zr_if_ne (a := 0) (tgt := 39) X dX9_ask_33 (by decide) (by decide) (fun c9 => absurd c9 (by decide)) (fun _ => ?_)
          refine lv_bipush (v := (-7)) X.1 X.2.1 dX9_ask_36 (by decide) ?_
          have e9 : sp_ask 5 t u = ((-7), u) := (by unfold sp_ask; simp only [show zn (5 : Int32) = 5 from rfl, Nat.reduceMul, Nat.reduceAdd]; (first | refine (if_neg (fun h9 => h9 ⟨by decide, by omega⟩)).trans ?_ | refine (if_pos (fun h9 => by obtain ⟨-, h9⟩ := h9; omega)).trans ?_ | refine (if_pos (by omega)).trans ?_); (repeat (first | refine (if_pos (by omega)).trans ?_ | refine (if_neg (by omega)).trans ?_)); rfl)
          exact zr_iret X hW dX9_ask_38 (Nat.le_of_ble_eq_true rfl) (Nat.le_of_ble_eq_true rfl) ⟨by rw [e9], by rw [e9]; exact hR, zc_fr0⟩
      · subst h9
        have h_122 : ¬ (zi_in t 0 1) := h_122
        refine zr_if_ne (a := 0) (tgt := 27) X dX9_ask_22 (by decide) (by decide) (fun c9 => absurd c9 (by decide)) (fun _ => ?_)
        refine lv_iconst (v := (-1)) X.1 X.2.1 dX9_ask_25 (by decide) ?_
        have e9 : sp_ask 5 t u = ((-1), u) := (by unfold sp_ask; simp only [show zn (5 : Int32) = 5 from rfl, Nat.reduceMul, Nat.reduceAdd]; (first | refine (if_neg (fun h9 => h9 ⟨by decide, by omega⟩)).trans ?_ | refine (if_pos (fun h9 => by obtain ⟨-, h9⟩ := h9; omega)).trans ?_ | refine (if_pos (by omega)).trans ?_); (repeat (first | refine (if_pos (by omega)).trans ?_ | refine (if_neg (by omega)).trans ?_)); rfl)
        exact zr_iret X hW dX9_ask_26 (Nat.le_of_ble_eq_true rfl) (Nat.le_of_ble_eq_true rfl) ⟨by rw [e9], by rw [e9]; exact hR, zc_fr0⟩
    · subst h9
      have h_121 : ¬ (0 ≤ (u 23 10).toInt) := h_121
      refine zr_if_eq (a := 0) (tgt := 25) X dX9_ask_15 (by decide) (by decide) (fun _ => ?_) (fun c9 => absurd c9 (by decide))
      refine lv_iconst (v := (-1)) X.1 X.2.1 dX9_ask_25 (by decide) ?_
      have e9 : sp_ask 5 t u = ((-1), u) := (by unfold sp_ask; simp only [show zn (5 : Int32) = 5 from rfl, Nat.reduceMul, Nat.reduceAdd]; (first | refine (if_neg (fun h9 => h9 ⟨by decide, by omega⟩)).trans ?_ | refine (if_pos (fun h9 => by obtain ⟨-, h9⟩ := h9; omega)).trans ?_ | refine (if_pos (by omega)).trans ?_); (repeat (first | refine (if_pos (by omega)).trans ?_ | refine (if_neg (by omega)).trans ?_)); rfl)
      exact zr_iret X hW dX9_ask_26 (Nat.le_of_ble_eq_true rfl) (Nat.le_of_ble_eq_true rfl) ⟨by rw [e9], by rw [e9]; exact hR, zc_fr0⟩
  · subst h8
    have h_161 : ¬ zs_us a := h9
    refine lv_astore_nN (lv' := [(3, .null), (0, .ref (ad 100)), (1, .int a), (2, .int t)]) X.1 X.2.1 dX9_ask_5 rfl hl (by decide) rfl (fun ls hl => ?_)
    refine lv_aload_nN X.1 X.2.1 dX9_ask_6 rfl (lv_at hl 0 rfl) ?_
    refine lv_ifnullN (tgt := 25) X.1 X.2.1 dX9_ask_7 (by decide) ?_
    refine lv_iconst (v := (-1)) X.1 X.2.1 dX9_ask_25 (by decide) ?_
    have e9 : sp_ask a t u = ((-1), u) := (by unfold sp_ask; (first | refine (if_neg (fun h9 => h9 ⟨by decide, by omega⟩)).trans ?_ | refine (if_pos (fun h9 => by obtain ⟨-, h9⟩ := h9; omega)).trans ?_ | refine (if_pos (by omega)).trans ?_); (repeat (first | refine (if_pos (by omega)).trans ?_ | refine (if_neg (by omega)).trans ?_)); rfl)
    exact zr_iret X hW dX9_ask_26 (Nat.le_of_ble_eq_true rfl) (Nat.le_of_ble_eq_true rfl) ⟨by rw [e9], by rw [e9]; exact hR, zc_fr0⟩

set_option maxHeartbeats 4000000 in
set_option maxRecDepth 100000 in
theorem c_X9_order (l : Launch) (Y : zw_Y) (N0 : Nat) (ad : Nat → Nat) (sh : Nat → Option zw_Sh) (g u : zm_T) (hR : zc_R sh g u) (hI : zm_I u) (a o f x : Int32) : zw_Met l Y N0 yX9_order cX9_order 7 (some .int) 3 66 2 8 ad sh g [.ref (ad 100), .int a, .int o, .int f, .int x] (zc_Po ad sh g (sp_order a o f x u)) := by
  refine zw_meth (by decide) (Nat.le_of_ble_eq_true rfl) ?_
  intro p e s m below meth c ls X hnm hl hW
  have hl : lv_has ls 7 [(0, .ref (ad 100)), (1, .int a), (2, .int o), (3, .int f), (4, .int x)] := hl
  have hS := hR.1
  have hN0 := hR.2.1
  have hN := hR.2.1
  have hB : ∀ i : Nat, i < 12 → -1 ≤ (u 5 i).toInt := fun i hi => (zI_bk hI i hi).1
  have hT : ∀ i : Nat, i < 12 → -1 ≤ (u 23 i).toInt := fun i hi => (zI_tk hI i hi).1
  have hse := zI_se hI
  have hke := zI_ke hI
  refine lv_aload_n X.1 X.2.1 dX9_order_0 rfl (lv_at hl 0 rfl) ?_
  refine lv_iload_n X.1 X.2.1 dX9_order_1 rfl (lv_at hl 1 rfl) ?_
  refine zr_callV (As := [.int a]) (rest := []) X hW hl.1 md_X9_userAt ms_X9_112 dX9_order_2 (zc_s100 hS) rfl rfl rfl rfl (Nat.le_of_ble_eq_true rfl) ⟨Nat.le_of_ble_eq_true rfl, Nat.le_of_ble_eq_true rfl⟩ ⟨Nat.le_of_ble_eq_true rfl, Nat.le_of_ble_eq_true rfl⟩ (c_X9_userAt l Y N0 ad sh g hS a) (fun v9 ad9 sh9 g9 H locs hp hW => ?_)
  rcases hp with ⟨rfl, rfl, rfl, ⟨h9, h8⟩ | ⟨h9, h8⟩ | ⟨h9, h8⟩ | ⟨h9, h8⟩ | ⟨h9, h8⟩⟩
  · subst h8
    subst h9
    refine lv_astore (lv' := [(5, .ref (ad 115)), (0, .ref (ad 100)), (1, .int 2), (2, .int o), (3, .int f), (4, .int x)]) X.1 X.2.1 dX9_order_5 hl (by decide) rfl (fun ls hl => ?_)
    refine lv_aload X.1 X.2.1 dX9_order_7 (lv_at hl 0 rfl) ?_
    refine lv_ifnull X.1 X.2.1 dX9_order_9 ?_
    refine lv_aload X.1 X.2.1 dX9_order_12 (lv_at hl 0 rfl) ?_
    refine lv_iconst (v := 1) X.1 X.2.1 dX9_order_14 (by decide) ?_
    refine zr_callV (As := [.int 1]) (rest := []) X hW hl.1 md_X8_hasCredential ms_X9_134 dX9_order_15 (zc_s115 hS) rfl rfl rfl rfl (Nat.le_of_ble_eq_true rfl) ⟨Nat.le_of_ble_eq_true rfl, Nat.le_of_ble_eq_true rfl⟩ ⟨Nat.le_of_ble_eq_true rfl, Nat.le_of_ble_eq_true rfl⟩ (c_X8_hasCredential_0_1 l Y N0 ad sh g u hS hN hT) (fun v9 ad9 sh9 g9 H locs hp hW => ?_)
    rcases hp with ⟨rfl, rfl, rfl, ⟨h_1, h9⟩ | ⟨h_1, h9⟩⟩
    · subst h9
      have h_1 : 0 ≤ (u 23 5).toInt := h_1
      refine zr_if_ne (a := 1) (tgt := 23) X dX9_order_18 (by decide) (by decide) (fun _ => ?_) (fun c9 => absurd c9 (by decide))
      refine lv_iload_n X.1 X.2.1 dX9_order_23 rfl (lv_at hl 3 rfl) ?_
      refine lv_iconst (v := 1) X.1 X.2.1 dX9_order_24 (by decide) ?_
      refine zr_icmp_lt (a := (o).toInt) (b := 1) (tgt := 40) X dX9_order_25 (by decide) rfl (by decide) (fun c_2 => ?_) (fun c_2 => ?_)
      · refine lv_iconst (v := (-1)) X.1 X.2.1 dX9_order_40 (by decide) ?_
        have e9 : sp_order 2 o f x u = ((-1), u) := (by unfold sp_order; simp only [show zn (2 : Int32) = 2 from rfl, Nat.reduceMul, Nat.reduceAdd]; (first | refine (if_neg (fun h9 => h9 ⟨by decide, by omega⟩)).trans ?_ | refine (if_pos (fun h9 => by obtain ⟨-, h9⟩ := h9; omega)).trans ?_ | refine (if_pos (by omega)).trans ?_); (repeat (first | refine (if_pos (by omega)).trans ?_ | refine (if_neg (by omega)).trans ?_)); rfl)
        exact zr_iret X hW dX9_order_41 (Nat.le_of_ble_eq_true rfl) (Nat.le_of_ble_eq_true rfl) ⟨by rw [e9], by rw [e9]; exact hR, zc_fr0⟩
      · refine lv_iload_n X.1 X.2.1 dX9_order_28 rfl (lv_at hl 3 rfl) ?_
        refine lv_iconst (v := 3) X.1 X.2.1 dX9_order_29 (by decide) ?_
        refine zr_icmp_gt (a := (o).toInt) (b := 3) (tgt := 40) X dX9_order_30 (by decide) rfl (by decide) (fun c_3 => ?_) (fun c_3 => ?_)
        · refine lv_iconst (v := (-1)) X.1 X.2.1 dX9_order_40 (by decide) ?_
          have e9 : sp_order 2 o f x u = ((-1), u) := (by unfold sp_order; simp only [show zn (2 : Int32) = 2 from rfl, Nat.reduceMul, Nat.reduceAdd]; (first | refine (if_neg (fun h9 => h9 ⟨by decide, by omega⟩)).trans ?_ | refine (if_pos (fun h9 => by obtain ⟨-, h9⟩ := h9; omega)).trans ?_ | refine (if_pos (by omega)).trans ?_); (repeat (first | refine (if_pos (by omega)).trans ?_ | refine (if_neg (by omega)).trans ?_)); rfl)
          exact zr_iret X hW dX9_order_41 (Nat.le_of_ble_eq_true rfl) (Nat.le_of_ble_eq_true rfl) ⟨by rw [e9], by rw [e9]; exact hR, zc_fr0⟩
        · refine lv_iload_n X.1 X.2.1 dX9_order_33 rfl (lv_at hl 4 rfl) ?_
          refine zr_callS (As := [.int f]) (rest := []) X hW hl.1 md_X9_isFile ms_X9_98 dX9_order_34 rfl rfl (Nat.le_of_ble_eq_true rfl) ⟨Nat.le_of_ble_eq_true rfl, Nat.le_of_ble_eq_true rfl⟩ ⟨Nat.le_of_ble_eq_true rfl, Nat.le_of_ble_eq_true rfl⟩ (c_X9_isFile l Y N0 ad sh g f) (fun v9 ad9 sh9 g9 H locs hp hW => ?_)
          rcases hp with ⟨rfl, rfl, rfl, ⟨h_4, h9⟩ | ⟨h_4, h9⟩⟩
          · subst h9
            have h_4 : zi_in f 0 2 := h_4
            refine zr_if_ne (a := 1) (tgt := 42) X dX9_order_37 (by decide) (by decide) (fun _ => ?_) (fun c9 => absurd c9 (by decide))
            refine lv_aload_n X.1 X.2.1 dX9_order_42 rfl (lv_at hl 1 rfl) ?_
            refine lv_iconst (v := 0) X.1 X.2.1 dX9_order_43 (by decide) ?_
            refine lv_iconst (v := 1) X.1 X.2.1 dX9_order_44 (by decide) ?_
            refine zr_callV (As := [.int 0, .int 1]) (rest := []) X hW hl.1 md_X9_hasRoom ms_X9_76 dX9_order_45 (zc_s100 hS) rfl rfl rfl rfl (Nat.le_of_ble_eq_true rfl) ⟨Nat.le_of_ble_eq_true rfl, Nat.le_of_ble_eq_true rfl⟩ ⟨Nat.le_of_ble_eq_true rfl, Nat.le_of_ble_eq_true rfl⟩ (c_X9_hasRoom_01 l Y N0 ad sh g u hS hN hI) (fun v9 ad9 sh9 g9 H locs hp hW => ?_)
            rcases hp with ⟨rfl, rfl, rfl, ⟨h_5, h9⟩ | ⟨h_5, h9⟩⟩
            · subst h9
              have h_5 : (u 0 2).toInt + 0 ≤ 200 ∧ (u 0 8).toInt + 1 ≤ 150 := h_5
              refine zr_if_ne (a := 1) (tgt := 54) X dX9_order_48 (by decide) (by decide) (fun _ => ?_) (fun c9 => absurd c9 (by decide))
              refine lv_aload X.1 X.2.1 dX9_order_54 (lv_at hl 0 rfl) ?_
              refine zr_get (r := 115) (v := .ref (ad 134)) X hW fs_X9_137_7 dX9_order_56 (zc_s115 hS) rfl rfl rfl ?_
              refine lv_iconst (v := 1) X.1 X.2.1 dX9_order_59 (by decide) ?_
              refine zr_iald (r := 134) (v := u 24 5) X hW dX9_order_60 (zc_s134 hS) rfl rfl (zi_vp (by decide)) ((show g 134 (1 : Int32).toNatClampNeg = g 134 1 from rfl).trans (hR.2.2.2.1 0 1 (by omega) (by omega) (show ¬ (u 23 5).toInt = -1 by omega))) ?_
              refine lv_istore (lv' := [(6, .int (u 24 5)), (5, .ref (ad 115)), (0, .ref (ad 100)), (1, .int 2), (2, .int o), (3, .int f), (4, .int x)]) X.1 X.2.1 dX9_order_61 hl (by decide) rfl (fun ls hl => ?_)
              have h8 : 0 ≤ (u 0 8).toInt ∧ (u 0 8).toInt < 150 := by omega
              have hsp : sp_order 2 o f x u = (u 0 8, zs_mk (zm_w u 25 2 (u 25 2 + 1)) (zs_v 4 (u 24 5) 2 (-1) (u 1 2) (u 25 2 + 1) 0 o f x)) := (by unfold sp_order; simp only [show zn (2 : Int32) = 2 from rfl, Nat.reduceMul, Nat.reduceAdd]; (first | refine (if_neg (fun h9 => h9 ⟨by decide, by omega⟩)).trans ?_ | refine (if_pos (fun h9 => by obtain ⟨-, h9⟩ := h9; omega)).trans ?_ | refine (if_pos (by omega)).trans ?_); (repeat (first | refine (if_pos (by omega)).trans ?_ | refine (if_neg (by omega)).trans ?_)); rfl)
              refine lv_aload_n X.1 X.2.1 dX9_order_63 rfl (lv_at hl 2 rfl) ?_
              refine zr_new (ss := [none, none, none, none, some none]) X hW cs_X1 ns_X9_140 dX9_order_64 ds_X1 (by intro r h; simp at h) (200 + 2 * zn (u 0 8)) (hR.2.2.2.2.2.2.1 (200 + 2 * zn (u 0 8)) (by omega)) (Nat.le_of_ble_eq_true rfl) (Nat.le_of_ble_eq_true rfl) (fun ad_6 H had_6 hW => ?_)
              obtain ⟨sh_7, hsh_7⟩ : ∃ z : Nat → Option zw_Sh, z = va_up sh (200 + 2 * zn (u 0 8)) (some (.inl (1, [none, none, none, none, some none]))) := ⟨_, rfl⟩
              obtain ⟨g_8, hg_8⟩ : ∃ z : zm_T, z = va_up g (200 + 2 * zn (u 0 8)) (fun _ => 0) := ⟨_, rfl⟩
              rw [← hsh_7, ← hg_8] at hW
              have hS : zc_S sh_7 := by rw [hsh_7]; exact zc_S200 (by omega) hS
              have hN : zc_N g_8 u := by rw [hg_8]; exact zc_Nv hN (by omega)
              refine lv_dup X.1 X.2.1 dX9_order_67 rfl ?_
              refine lv_iload X.1 X.2.1 dX9_order_68 (lv_at hl 0 rfl) ?_
              refine lv_iload_n X.1 X.2.1 dX9_order_70 rfl (lv_at hl 3 rfl) ?_
              refine lv_aload_n X.1 X.2.1 dX9_order_71 rfl (lv_at hl 2 rfl) ?_
              refine zr_get (r := 100) (v := .ref (ad_6 101)) X hW fs_X9_9_8 dX9_order_72 (zc_s100 hS) (had_6 100 (by omega)) rfl rfl ?_
              refine lv_iload_n X.1 X.2.1 dX9_order_75 rfl (lv_at hl 3 rfl) ?_
              refine zr_iald (r := 101) (v := u 1 2) X hW dX9_order_76 (zc_s101 hS) rfl rfl (zi_vp (by decide)) ((show g_8 101 (2 : Int32).toNatClampNeg = g_8 101 2 from rfl).trans ((show g_8 101 2 = g 101 2 from (by rw [hg_8, va_up_ne _ _ (by omega)])).trans (hN0 _ _ _ _ rfl))) ?_
              refine lv_aload X.1 X.2.1 dX9_order_77 (lv_at hl 1 rfl) ?_
              refine zr_callV (As := []) (rest := [.int (u 1 2), .int 2, .int (u 24 5), .ref (ad_6 (200 + 2 * zn (u 0 8))), .ref (ad_6 (200 + 2 * zn (u 0 8))), .ref (ad 100)]) X hW hl.1 md_X8_makeSerial ms_X9_142 dX9_order_79 (zc_s115 hS) rfl rfl rfl (by rw [(had_6 115 (by omega))] <;> rfl) (Nat.le_of_ble_eq_true rfl) ⟨Nat.le_of_ble_eq_true rfl, Nat.le_of_ble_eq_true rfl⟩ ⟨Nat.le_of_ble_eq_true rfl, Nat.le_of_ble_eq_true rfl⟩ (c_X8_makeSerial_0 l Y N0 ad_6 sh_7 g_8 u hS hN) (fun v9 ad9 sh9 g9 H locs hp hW => ?_)
              obtain ⟨rfl, rfl, _, rfl, rfl, rfl⟩ := hp
              obtain ⟨g_10, hg_10⟩ : ∃ z : zm_T, z = zm_w g_8 115 3 (u 25 2 + 1) := ⟨_, rfl⟩
              rw [← hg_10] at hW
              obtain ⟨u_11, hu_11⟩ : ∃ z : zm_T, z = zm_w u 25 2 (u 25 2 + 1) := ⟨_, rfl⟩
              have hN : zc_N g_10 u_11 := by rw [hg_10, hu_11]; exact zc_Nw hN rfl _
              refine zr_new (ss := [none, none, none]) X hW cs_X3 ns_X9_145 dX9_order_82 ds_X3 (by intro r h; simp at h) (201 + 2 * zn (u 0 8)) (show sh_7 (201 + 2 * zn (u 0 8)) = none from (by rw [hsh_7]; exact (va_up_ne _ _ (by omega)).trans (hR.2.2.2.2.2.2.1 (201 + 2 * zn (u 0 8)) (by omega)))) (Nat.le_of_ble_eq_true rfl) (Nat.le_of_ble_eq_true rfl) (fun ad_12 H had_12 hW => ?_)
              obtain ⟨sh_13, hsh_13⟩ : ∃ z : Nat → Option zw_Sh, z = va_up sh_7 (201 + 2 * zn (u 0 8)) (some (.inl (3, [none, none, none]))) := ⟨_, rfl⟩
              obtain ⟨g_14, hg_14⟩ : ∃ z : zm_T, z = va_up g_10 (201 + 2 * zn (u 0 8)) (fun _ => 0) := ⟨_, rfl⟩
              rw [← hsh_13, ← hg_14] at hW
              have hS : zc_S sh_13 := by rw [hsh_13]; exact zc_S200 (by omega) hS
              have hN : zc_N g_14 u_11 := by rw [hg_14]; exact zc_Nv hN (by omega)
              refine lv_dup X.1 X.2.1 dX9_order_85 rfl ?_
              refine lv_iload_n X.1 X.2.1 dX9_order_86 rfl (lv_at hl 4 rfl) ?_
              refine lv_iload_n X.1 X.2.1 dX9_order_87 rfl (lv_at hl 5 rfl) ?_
              refine lv_iload X.1 X.2.1 dX9_order_88 (lv_at hl 6 rfl) ?_
              refine zr_callI (As := [.int o, .int f, .int x]) (rest := [.ref (ad_12 (201 + 2 * zn (u 0 8))), .int (u 25 2 + 1), .int (u 1 2), .int 2, .int (u 24 5), .ref (ad_6 (200 + 2 * zn (u 0 8))), .ref (ad_6 (200 + 2 * zn (u 0 8))), .ref (ad 100)]) (b := ad_12 (201 + 2 * zn (u 0 8))) X hW hl.1 md_X3_init ms_X9_147 rfl dX9_order_90 rfl rfl (Nat.le_of_ble_eq_true rfl) ⟨Nat.le_of_ble_eq_true rfl, Nat.le_of_ble_eq_true rfl⟩ ⟨Nat.le_of_ble_eq_true rfl, Nat.le_of_ble_eq_true rfl⟩ (c_X3_init l Y N0 ad_12 sh_13 g_14 ((201 + 2 * zn (u 0 8))) (show sh_13 (201 + 2 * zn (u 0 8)) = some (.inl (3, [none, none, none])) from (by rw [hsh_13]; exact va_up_self _ _ _)) o f x) (fun v9 ad9 sh9 g9 H locs hp hW => ?_)
              obtain ⟨rfl, rfl, rfl, rfl⟩ := hp
              obtain ⟨g_18, hg_18⟩ : ∃ z : zm_T, z = zm_w g_14 (201 + 2 * zn (u 0 8)) 0 o := ⟨_, rfl⟩
              obtain ⟨g_19, hg_19⟩ : ∃ z : zm_T, z = zm_w g_18 (201 + 2 * zn (u 0 8)) 1 f := ⟨_, rfl⟩
              obtain ⟨g_20, hg_20⟩ : ∃ z : zm_T, z = zm_w g_19 (201 + 2 * zn (u 0 8)) 2 x := ⟨_, rfl⟩
              rw [← hg_18, ← hg_19, ← hg_20] at hW
              have hN : zc_N g_18 u_11 := by rw [hg_18]; exact zc_Nc hN (zc_lm200 (by omega)) _
              have hN : zc_N g_19 u_11 := by rw [hg_19]; exact zc_Nc hN (zc_lm200 (by omega)) _
              have hN : zc_N g_20 u_11 := by rw [hg_20]; exact zc_Nc hN (zc_lm200 (by omega)) _
              refine zr_callI (As := [.int (u 24 5), .int 2, .int (u 1 2), .int (u 25 2 + 1), .ref (ad_12 (201 + 2 * zn (u 0 8)))]) (rest := [.ref (ad_6 (200 + 2 * zn (u 0 8))), .ref (ad 100)]) (b := ad_12 (200 + 2 * zn (u 0 8))) X hW hl.1 md_X1_init ms_X9_148 rfl dX9_order_93 rfl (by rw [(had_12 ((200 + 2 * zn (u 0 8))) (by omega))] <;> rfl) (Nat.le_of_ble_eq_true rfl) ⟨Nat.le_of_ble_eq_true rfl, Nat.le_of_ble_eq_true rfl⟩ ⟨Nat.le_of_ble_eq_true rfl, Nat.le_of_ble_eq_true rfl⟩ (c_X1_init l Y N0 ad_12 sh_13 g_20 ((200 + 2 * zn (u 0 8))) ((201 + 2 * zn (u 0 8))) (show sh_13 (200 + 2 * zn (u 0 8)) = some (.inl (1, [none, none, none, none, some none])) from (by rw [hsh_13]; exact (va_up_ne _ _ (by omega)).trans (show sh_7 (200 + 2 * zn (u 0 8)) = some (.inl (1, [none, none, none, none, some none])) from (by rw [hsh_7]; exact va_up_self _ _ _)))) (by rw [(show sh_13 (201 + 2 * zn (u 0 8)) = some (.inl (3, [none, none, none])) from (by rw [hsh_13]; exact va_up_self _ _ _))]; simp) (u 24 5) 2 (u 1 2) (u 25 2 + 1)) (fun v9 ad9 sh9 g9 H locs hp hW => ?_)
              obtain ⟨rfl, rfl, rfl, rfl⟩ := hp
              obtain ⟨g_25, hg_25⟩ : ∃ z : zm_T, z = zm_w g_20 (200 + 2 * zn (u 0 8)) 0 (u 24 5) := ⟨_, rfl⟩
              obtain ⟨g_26, hg_26⟩ : ∃ z : zm_T, z = zm_w g_25 (200 + 2 * zn (u 0 8)) 1 2 := ⟨_, rfl⟩
              obtain ⟨g_27, hg_27⟩ : ∃ z : zm_T, z = zm_w g_26 (200 + 2 * zn (u 0 8)) 2 (u 1 2) := ⟨_, rfl⟩
              obtain ⟨g_28, hg_28⟩ : ∃ z : zm_T, z = zm_w g_27 (200 + 2 * zn (u 0 8)) 3 (u 25 2 + 1) := ⟨_, rfl⟩
              rw [← hg_25, ← hg_26, ← hg_27, ← hg_28] at hW
              have hN : zc_N g_25 u_11 := by rw [hg_25]; exact zc_Nc hN (zc_lm200 (by omega)) _
              have hN : zc_N g_26 u_11 := by rw [hg_26]; exact zc_Nc hN (zc_lm200 (by omega)) _
              have hN : zc_N g_27 u_11 := by rw [hg_27]; exact zc_Nc hN (zc_lm200 (by omega)) _
              have hN : zc_N g_28 u_11 := by rw [hg_28]; exact zc_Nc hN (zc_lm200 (by omega)) _
              obtain ⟨sh_29, hsh_29⟩ : ∃ z : Nat → Option zw_Sh, z = va_up sh_13 (200 + 2 * zn (u 0 8)) (some (.inl (1, [none, none, none, none, some (some (201 + 2 * zn (u 0 8)))]))) := ⟨_, rfl⟩
              rw [← hsh_29] at hW
              have hS : zc_S sh_29 := by rw [hsh_29]; exact zc_S200 (by omega) hS
              refine zr_callV (As := [.ref (ad_12 (200 + 2 * zn (u 0 8)))]) (rest := []) X hW hl.1 md_X9_keep ms_X9_130 dX9_order_96 (zc_s100 hS) rfl rfl rfl (by rw [((had_12 100 (by omega)).trans (had_6 100 (by omega))), (had_12 ((200 + 2 * zn (u 0 8))) (by omega))] <;> rfl) (Nat.le_of_ble_eq_true rfl) ⟨Nat.le_of_ble_eq_true rfl, Nat.le_of_ble_eq_true rfl⟩ ⟨Nat.le_of_ble_eq_true rfl, Nat.le_of_ble_eq_true rfl⟩ (c_X9_keep_1 l Y N0 ad_12 sh_29 g_28 hS (u 0 8) ((show g_28 100 8 = g_27 100 8 from (by rw [hg_28]; exact zm_wn _ _ (Or.inl (by omega)))).trans ((show g_27 100 8 = g_26 100 8 from (by rw [hg_27]; exact zm_wn _ _ (Or.inl (by omega)))).trans ((show g_26 100 8 = g_25 100 8 from (by rw [hg_26]; exact zm_wn _ _ (Or.inl (by omega)))).trans ((show g_25 100 8 = g_20 100 8 from (by rw [hg_25]; exact zm_wn _ _ (Or.inl (by omega)))).trans ((show g_20 100 8 = g_19 100 8 from (by rw [hg_20]; exact zm_wn _ _ (Or.inl (by omega)))).trans ((show g_19 100 8 = g_18 100 8 from (by rw [hg_19]; exact zm_wn _ _ (Or.inl (by omega)))).trans ((show g_18 100 8 = g_14 100 8 from (by rw [hg_18]; exact zm_wn _ _ (Or.inl (by omega)))).trans ((show g_14 100 8 = g_10 100 8 from (by rw [hg_14, va_up_ne _ _ (by omega)])).trans ((show g_10 100 8 = g_8 100 8 from (by rw [hg_10]; rfl)).trans ((show g_8 100 8 = g 100 8 from (by rw [hg_8, va_up_ne _ _ (by omega)])).trans (hN0 _ _ _ _ rfl))))))))))) h8 (show sh_29 107 = some (.inr (3, 150, some (zc_sf (zn (u 0 8))))) from (by rw [hsh_29]; exact (va_up_ne _ _ (by omega)).trans (show sh_13 107 = some (.inr (3, 150, some (zc_sf (zn (u 0 8))))) from (by rw [hsh_13]; exact (va_up_ne _ _ (by omega)).trans (show sh_7 107 = some (.inr (3, 150, some (zc_sf (zn (u 0 8))))) from (by rw [hsh_7]; exact (va_up_ne _ _ (by omega)).trans hR.2.2.2.2.1)))))) (show sh_29 (200 + 2 * zn (u 0 8)) = some (.inl (1, [none, none, none, none, some (some (201 + 2 * zn (u 0 8)))])) from (by rw [hsh_29]; exact va_up_self _ _ _))) (fun v9 ad9 sh9 g9 H locs hp hW => ?_)
              obtain ⟨rfl, rfl, rfl, rfl⟩ := hp
              obtain ⟨sh_30, hsh_30⟩ : ∃ z : Nat → Option zw_Sh, z = va_up sh_29 107 (some (.inr (3, 150, some (zc_sf (zn (u 0 8) + 1))))) := ⟨_, rfl⟩
              obtain ⟨g_31, hg_31⟩ : ∃ z : zm_T, z = zm_w g_28 100 8 (u 0 8 + 1) := ⟨_, rfl⟩
              rw [← hsh_30, ← hg_31] at hW
              have hN9 : zc_N g_31 (zs_mk u_11 (zs_v 4 (u 24 5) 2 (-1) (u 1 2) (u 25 2 + 1) 0 o f x)) := by
                have e : u_11 0 8 = u 0 8 := by rw [hu_11]; rfl
                rw [hg_31, ← e]; exact zc_Nmk hN _
              have e8 : zn (u_11 0 8) = zn (u 0 8) := by rw [hu_11]; rfl
              have hu9 : ∀ r i : Nat, (r = 20 ∨ r = 22 ∨ r = 23 ∨ r = 24 ∨ r = 29 ∨ (r = 0 ∧ i = 28) ∨ (9 ≤ r ∧ r ≤ 18 ∧ i ≠ zn (u 0 8))) → zs_mk u_11 (zs_v 4 (u 24 5) 2 (-1) (u 1 2) (u 25 2 + 1) 0 o f x) r i = u r i := fun r i h => by
                rw [zs_mku u_11 _ r i (by rw [e8]; exact h)]
                rw [hu_11, zm_wn _ _ (by omega)]
              have hvv : ∀ r : Nat, 9 ≤ r ∧ r ≤ 18 → zs_mk u_11 (zs_v 4 (u 24 5) 2 (-1) (u 1 2) (u 25 2 + 1) 0 o f x) r (zn (u 0 8)) = (zs_v 4 (u 24 5) 2 (-1) (u 1 2) (u 25 2 + 1) 0 o f x) r := fun r h => by rw [← e8]; exact zs_mkn u_11 _ h
              have hsl9 : zc_sl sh_30 g_31 (zs_mk u_11 (zs_v 4 (u 24 5) 2 (-1) (u 1 2) (u 25 2 + 1) 0 o f x)) (zn (u 0 8)) := by
                unfold zc_sl
                rw [hvv 9 (by decide), hvv 10 (by decide), hvv 11 (by decide), hvv 12 (by decide), hvv 13 (by decide), hvv 14 (by decide), hvv 15 (by decide), hvv 16 (by decide), hvv 17 (by decide), hvv 18 (by decide)]
                exact ⟨fun h => absurd (show (4 : Int32).toInt = 1 from h) (by decide), fun h => absurd (show (4 : Int32).toInt = 2 from h) (by decide), fun h => absurd (show (4 : Int32).toInt = 3 from h) (by decide), fun _ => ⟨(show sh_30 (200 + 2 * zn (u 0 8)) = some (.inl (1, [none, none, none, none, some (some (201 + 2 * zn (u 0 8)))])) from (by rw [hsh_30]; exact (va_up_ne _ _ (by omega)).trans (show sh_29 (200 + 2 * zn (u 0 8)) = some (.inl (1, [none, none, none, none, some (some (201 + 2 * zn (u 0 8)))])) from (by rw [hsh_29]; exact va_up_self _ _ _)))), (show sh_30 (201 + 2 * zn (u 0 8)) = some (.inl (3, [none, none, none])) from (by rw [hsh_30]; exact (va_up_ne _ _ (by omega)).trans (show sh_29 (201 + 2 * zn (u 0 8)) = some (.inl (3, [none, none, none])) from (by rw [hsh_29]; exact (va_up_ne _ _ (by omega)).trans (show sh_13 (201 + 2 * zn (u 0 8)) = some (.inl (3, [none, none, none])) from (by rw [hsh_13]; exact va_up_self _ _ _)))))), ((show g_31 (200 + 2 * zn (u 0 8)) 0 = g_28 (200 + 2 * zn (u 0 8)) 0 from (by rw [hg_31, zm_wn _ _ (Or.inl (by omega))])).trans ((show g_28 (200 + 2 * zn (u 0 8)) 0 = g_27 (200 + 2 * zn (u 0 8)) 0 from (by rw [hg_28]; exact zm_wn _ _ (Or.inr (by decide)))).trans ((show g_27 (200 + 2 * zn (u 0 8)) 0 = g_26 (200 + 2 * zn (u 0 8)) 0 from (by rw [hg_27]; exact zm_wn _ _ (Or.inr (by decide)))).trans ((show g_26 (200 + 2 * zn (u 0 8)) 0 = g_25 (200 + 2 * zn (u 0 8)) 0 from (by rw [hg_26]; exact zm_wn _ _ (Or.inr (by decide)))).trans (show g_25 (200 + 2 * zn (u 0 8)) 0 = u 24 5 from (by rw [hg_25]; exact zm_ws _ _ _ _)))))), ((show g_31 (200 + 2 * zn (u 0 8)) 1 = g_28 (200 + 2 * zn (u 0 8)) 1 from (by rw [hg_31, zm_wn _ _ (Or.inl (by omega))])).trans ((show g_28 (200 + 2 * zn (u 0 8)) 1 = g_27 (200 + 2 * zn (u 0 8)) 1 from (by rw [hg_28]; exact zm_wn _ _ (Or.inr (by decide)))).trans ((show g_27 (200 + 2 * zn (u 0 8)) 1 = g_26 (200 + 2 * zn (u 0 8)) 1 from (by rw [hg_27]; exact zm_wn _ _ (Or.inr (by decide)))).trans (show g_26 (200 + 2 * zn (u 0 8)) 1 = 2 from (by rw [hg_26]; exact zm_ws _ _ _ _))))), ((show g_31 (200 + 2 * zn (u 0 8)) 2 = g_28 (200 + 2 * zn (u 0 8)) 2 from (by rw [hg_31, zm_wn _ _ (Or.inl (by omega))])).trans ((show g_28 (200 + 2 * zn (u 0 8)) 2 = g_27 (200 + 2 * zn (u 0 8)) 2 from (by rw [hg_28]; exact zm_wn _ _ (Or.inr (by decide)))).trans (show g_27 (200 + 2 * zn (u 0 8)) 2 = u 1 2 from (by rw [hg_27]; exact zm_ws _ _ _ _)))), ((show g_31 (200 + 2 * zn (u 0 8)) 3 = g_28 (200 + 2 * zn (u 0 8)) 3 from (by rw [hg_31, zm_wn _ _ (Or.inl (by omega))])).trans (show g_28 (200 + 2 * zn (u 0 8)) 3 = u 25 2 + 1 from (by rw [hg_28]; exact zm_ws _ _ _ _))), ((show g_31 (201 + 2 * zn (u 0 8)) 0 = g_28 (201 + 2 * zn (u 0 8)) 0 from (by rw [hg_31, zm_wn _ _ (Or.inl (by omega))])).trans ((show g_28 (201 + 2 * zn (u 0 8)) 0 = g_27 (201 + 2 * zn (u 0 8)) 0 from (by rw [hg_28]; exact zm_wn _ _ (Or.inl (by omega)))).trans ((show g_27 (201 + 2 * zn (u 0 8)) 0 = g_26 (201 + 2 * zn (u 0 8)) 0 from (by rw [hg_27]; exact zm_wn _ _ (Or.inl (by omega)))).trans ((show g_26 (201 + 2 * zn (u 0 8)) 0 = g_25 (201 + 2 * zn (u 0 8)) 0 from (by rw [hg_26]; exact zm_wn _ _ (Or.inl (by omega)))).trans ((show g_25 (201 + 2 * zn (u 0 8)) 0 = g_20 (201 + 2 * zn (u 0 8)) 0 from (by rw [hg_25]; exact zm_wn _ _ (Or.inl (by omega)))).trans ((show g_20 (201 + 2 * zn (u 0 8)) 0 = g_19 (201 + 2 * zn (u 0 8)) 0 from (by rw [hg_20]; exact zm_wn _ _ (Or.inr (by decide)))).trans ((show g_19 (201 + 2 * zn (u 0 8)) 0 = g_18 (201 + 2 * zn (u 0 8)) 0 from (by rw [hg_19]; exact zm_wn _ _ (Or.inr (by decide)))).trans (show g_18 (201 + 2 * zn (u 0 8)) 0 = o from (by rw [hg_18]; exact zm_ws _ _ _ _))))))))), ((show g_31 (201 + 2 * zn (u 0 8)) 1 = g_28 (201 + 2 * zn (u 0 8)) 1 from (by rw [hg_31, zm_wn _ _ (Or.inl (by omega))])).trans ((show g_28 (201 + 2 * zn (u 0 8)) 1 = g_27 (201 + 2 * zn (u 0 8)) 1 from (by rw [hg_28]; exact zm_wn _ _ (Or.inl (by omega)))).trans ((show g_27 (201 + 2 * zn (u 0 8)) 1 = g_26 (201 + 2 * zn (u 0 8)) 1 from (by rw [hg_27]; exact zm_wn _ _ (Or.inl (by omega)))).trans ((show g_26 (201 + 2 * zn (u 0 8)) 1 = g_25 (201 + 2 * zn (u 0 8)) 1 from (by rw [hg_26]; exact zm_wn _ _ (Or.inl (by omega)))).trans ((show g_25 (201 + 2 * zn (u 0 8)) 1 = g_20 (201 + 2 * zn (u 0 8)) 1 from (by rw [hg_25]; exact zm_wn _ _ (Or.inl (by omega)))).trans ((show g_20 (201 + 2 * zn (u 0 8)) 1 = g_19 (201 + 2 * zn (u 0 8)) 1 from (by rw [hg_20]; exact zm_wn _ _ (Or.inr (by decide)))).trans (show g_19 (201 + 2 * zn (u 0 8)) 1 = f from (by rw [hg_19]; exact zm_ws _ _ _ _)))))))), ((show g_31 (201 + 2 * zn (u 0 8)) 2 = g_28 (201 + 2 * zn (u 0 8)) 2 from (by rw [hg_31, zm_wn _ _ (Or.inl (by omega))])).trans ((show g_28 (201 + 2 * zn (u 0 8)) 2 = g_27 (201 + 2 * zn (u 0 8)) 2 from (by rw [hg_28]; exact zm_wn _ _ (Or.inl (by omega)))).trans ((show g_27 (201 + 2 * zn (u 0 8)) 2 = g_26 (201 + 2 * zn (u 0 8)) 2 from (by rw [hg_27]; exact zm_wn _ _ (Or.inl (by omega)))).trans ((show g_26 (201 + 2 * zn (u 0 8)) 2 = g_25 (201 + 2 * zn (u 0 8)) 2 from (by rw [hg_26]; exact zm_wn _ _ (Or.inl (by omega)))).trans ((show g_25 (201 + 2 * zn (u 0 8)) 2 = g_20 (201 + 2 * zn (u 0 8)) 2 from (by rw [hg_25]; exact zm_wn _ _ (Or.inl (by omega)))).trans (show g_20 (201 + 2 * zn (u 0 8)) 2 = x from (by rw [hg_20]; exact zm_ws _ _ _ _)))))))⟩⟩
              have hz9 : zn (zs_mk u_11 (zs_v 4 (u 24 5) 2 (-1) (u 1 2) (u 25 2 + 1) 0 o f x) 0 8) = zn (u 0 8) + 1 := by have q9 := zs_mkz (u := u_11) (by rw [hu_11]; exact h8) (zs_v 4 (u 24 5) 2 (-1) (u 1 2) (u 25 2 + 1) 0 o f x); rw [q9, e8]
              have hR9 : zc_R sh_30 g_31 (zs_mk u_11 (zs_v 4 (u 24 5) 2 (-1) (u 1 2) (u 25 2 + 1) 0 o f x)) := zc_add (n := (zn (u 0 8))) hR rfl hz9 hN9 hu9 (show sh_30 107 = some (.inr (3, 150, some (zc_sf (zn (u 0 8) + 1)))) from (by rw [hsh_30]; exact va_up_self _ _ _)) (fun r h1 h2 h3 => by rw [hsh_30, va_up_ne _ _ (by omega), hsh_29, va_up_ne _ _ (by omega), hsh_13, va_up_ne _ _ (by omega), hsh_7, va_up_ne _ _ (by omega)]) (fun r h1 h2 h3 => by rw [hg_31, zm_wr (by omega), hg_28, zm_wr (by omega), hg_27, zm_wr (by omega), hg_26, zm_wr (by omega), hg_25, zm_wr (by omega), hg_20, zm_wr (by omega), hg_19, zm_wr (by omega), hg_18, zm_wr (by omega), hg_14, va_up_ne _ _ (by omega), hg_10, zm_wr (by omega), hg_8, va_up_ne _ _ (by omega)]) (fun j hj => by rw [hg_31, zm_wn _ _ (by omega), hg_28, zm_wn _ _ (by omega), hg_27, zm_wn _ _ (by omega), hg_26, zm_wn _ _ (by omega), hg_25, zm_wn _ _ (by omega), hg_20, zm_wn _ _ (by omega), hg_19, zm_wn _ _ (by omega), hg_18, zm_wn _ _ (by omega), hg_14, va_up_ne _ _ (by omega), hg_10, zm_wn _ _ (by omega), hg_8, va_up_ne _ _ (by omega)]) hsl9
              have hf9 : zc_fr ad sh g ad_12 sh_30 g_31 := ⟨fun r hr => (had_12 r (by omega)).trans (had_6 r (by omega)), fun r hr => ⟨by rw [hsh_30, va_up_ne _ _ (by omega), hsh_29, va_up_ne _ _ (by omega), hsh_13, va_up_ne _ _ (by omega), hsh_7, va_up_ne _ _ (by omega)], by rw [hg_31, zm_wr (by omega), hg_28, zm_wr (by omega), hg_27, zm_wr (by omega), hg_26, zm_wr (by omega), hg_25, zm_wr (by omega), hg_20, zm_wr (by omega), hg_19, zm_wr (by omega), hg_18, zm_wr (by omega), hg_14, va_up_ne _ _ (by omega), hg_10, zm_wr (by omega), hg_8, va_up_ne _ _ (by omega)]⟩⟩
              rw [hu_11] at hR9
              exact zr_iret X hW dX9_order_99 (Nat.le_of_ble_eq_true rfl) (Nat.le_of_ble_eq_true rfl) ⟨by rw [hsp], by rw [hsp]; exact hR9, hf9⟩
            · subst h9
              have h_5 : ¬ ((u 0 2).toInt + 0 ≤ 200 ∧ (u 0 8).toInt + 1 ≤ 150) := h_5
              refine zr_if_ne (a := 0) (tgt := 54) X dX9_order_48 (by decide) (by decide) (fun c9 => absurd c9 (by decide)) (fun _ => ?_)
              refine lv_bipush (v := (-7)) X.1 X.2.1 dX9_order_51 (by decide) ?_
              have e9 : sp_order 2 o f x u = ((-7), u) := (by unfold sp_order; simp only [show zn (2 : Int32) = 2 from rfl, Nat.reduceMul, Nat.reduceAdd]; (first | refine (if_neg (fun h9 => h9 ⟨by decide, by omega⟩)).trans ?_ | refine (if_pos (fun h9 => by obtain ⟨-, h9⟩ := h9; omega)).trans ?_ | refine (if_pos (by omega)).trans ?_); (repeat (first | refine (if_pos (by omega)).trans ?_ | refine (if_neg (by omega)).trans ?_)); rfl)
              exact zr_iret X hW dX9_order_53 (Nat.le_of_ble_eq_true rfl) (Nat.le_of_ble_eq_true rfl) ⟨by rw [e9], by rw [e9]; exact hR, zc_fr0⟩
          · subst h9
            have h_4 : ¬ (zi_in f 0 2) := h_4
            refine zr_if_ne (a := 0) (tgt := 42) X dX9_order_37 (by decide) (by decide) (fun c9 => absurd c9 (by decide)) (fun _ => ?_)
            refine lv_iconst (v := (-1)) X.1 X.2.1 dX9_order_40 (by decide) ?_
            have e9 : sp_order 2 o f x u = ((-1), u) := (by unfold sp_order; simp only [show zn (2 : Int32) = 2 from rfl, Nat.reduceMul, Nat.reduceAdd]; (first | refine (if_neg (fun h9 => h9 ⟨by decide, by omega⟩)).trans ?_ | refine (if_pos (fun h9 => by obtain ⟨-, h9⟩ := h9; omega)).trans ?_ | refine (if_pos (by omega)).trans ?_); (repeat (first | refine (if_pos (by omega)).trans ?_ | refine (if_neg (by omega)).trans ?_)); rfl)
            exact zr_iret X hW dX9_order_41 (Nat.le_of_ble_eq_true rfl) (Nat.le_of_ble_eq_true rfl) ⟨by rw [e9], by rw [e9]; exact hR, zc_fr0⟩
    · subst h9
      have h_1 : ¬ (0 ≤ (u 23 5).toInt) := h_1
      refine zr_if_ne (a := 0) (tgt := 23) X dX9_order_18 (by decide) (by decide) (fun c9 => absurd c9 (by decide)) (fun _ => ?_)
      refine lv_iconst (v := (-1)) X.1 X.2.1 dX9_order_21 (by decide) ?_
      have e9 : sp_order 2 o f x u = ((-1), u) := (by unfold sp_order; simp only [show zn (2 : Int32) = 2 from rfl, Nat.reduceMul, Nat.reduceAdd]; (first | refine (if_neg (fun h9 => h9 ⟨by decide, by omega⟩)).trans ?_ | refine (if_pos (fun h9 => by obtain ⟨-, h9⟩ := h9; omega)).trans ?_ | refine (if_pos (by omega)).trans ?_); (repeat (first | refine (if_pos (by omega)).trans ?_ | refine (if_neg (by omega)).trans ?_)); rfl)
      exact zr_iret X hW dX9_order_22 (Nat.le_of_ble_eq_true rfl) (Nat.le_of_ble_eq_true rfl) ⟨by rw [e9], by rw [e9]; exact hR, zc_fr0⟩
  · subst h8
    subst h9
    refine lv_astore (lv' := [(5, .ref (ad 116)), (0, .ref (ad 100)), (1, .int 3), (2, .int o), (3, .int f), (4, .int x)]) X.1 X.2.1 dX9_order_5 hl (by decide) rfl (fun ls hl => ?_)
    refine lv_aload X.1 X.2.1 dX9_order_7 (lv_at hl 0 rfl) ?_
    refine lv_ifnull X.1 X.2.1 dX9_order_9 ?_
    refine lv_aload X.1 X.2.1 dX9_order_12 (lv_at hl 0 rfl) ?_
    refine lv_iconst (v := 1) X.1 X.2.1 dX9_order_14 (by decide) ?_
    refine zr_callV (As := [.int 1]) (rest := []) X hW hl.1 md_X8_hasCredential ms_X9_134 dX9_order_15 (zc_s116 hS) rfl rfl rfl rfl (Nat.le_of_ble_eq_true rfl) ⟨Nat.le_of_ble_eq_true rfl, Nat.le_of_ble_eq_true rfl⟩ ⟨Nat.le_of_ble_eq_true rfl, Nat.le_of_ble_eq_true rfl⟩ (c_X8_hasCredential_1_1 l Y N0 ad sh g u hS hN hT) (fun v9 ad9 sh9 g9 H locs hp hW => ?_)
    rcases hp with ⟨rfl, rfl, rfl, ⟨h_32, h9⟩ | ⟨h_32, h9⟩⟩
    · subst h9
      have h_32 : 0 ≤ (u 23 7).toInt := h_32
      refine zr_if_ne (a := 1) (tgt := 23) X dX9_order_18 (by decide) (by decide) (fun _ => ?_) (fun c9 => absurd c9 (by decide))
      refine lv_iload_n X.1 X.2.1 dX9_order_23 rfl (lv_at hl 3 rfl) ?_
      refine lv_iconst (v := 1) X.1 X.2.1 dX9_order_24 (by decide) ?_
      refine zr_icmp_lt (a := (o).toInt) (b := 1) (tgt := 40) X dX9_order_25 (by decide) rfl (by decide) (fun c_33 => ?_) (fun c_33 => ?_)
      · refine lv_iconst (v := (-1)) X.1 X.2.1 dX9_order_40 (by decide) ?_
        have e9 : sp_order 3 o f x u = ((-1), u) := (by unfold sp_order; simp only [show zn (3 : Int32) = 3 from rfl, Nat.reduceMul, Nat.reduceAdd]; (first | refine (if_neg (fun h9 => h9 ⟨by decide, by omega⟩)).trans ?_ | refine (if_pos (fun h9 => by obtain ⟨-, h9⟩ := h9; omega)).trans ?_ | refine (if_pos (by omega)).trans ?_); (repeat (first | refine (if_pos (by omega)).trans ?_ | refine (if_neg (by omega)).trans ?_)); rfl)
        exact zr_iret X hW dX9_order_41 (Nat.le_of_ble_eq_true rfl) (Nat.le_of_ble_eq_true rfl) ⟨by rw [e9], by rw [e9]; exact hR, zc_fr0⟩
      · refine lv_iload_n X.1 X.2.1 dX9_order_28 rfl (lv_at hl 3 rfl) ?_
        refine lv_iconst (v := 3) X.1 X.2.1 dX9_order_29 (by decide) ?_
        refine zr_icmp_gt (a := (o).toInt) (b := 3) (tgt := 40) X dX9_order_30 (by decide) rfl (by decide) (fun c_34 => ?_) (fun c_34 => ?_)
        · refine lv_iconst (v := (-1)) X.1 X.2.1 dX9_order_40 (by decide) ?_
          have e9 : sp_order 3 o f x u = ((-1), u) := (by unfold sp_order; simp only [show zn (3 : Int32) = 3 from rfl, Nat.reduceMul, Nat.reduceAdd]; (first | refine (if_neg (fun h9 => h9 ⟨by decide, by omega⟩)).trans ?_ | refine (if_pos (fun h9 => by obtain ⟨-, h9⟩ := h9; omega)).trans ?_ | refine (if_pos (by omega)).trans ?_); (repeat (first | refine (if_pos (by omega)).trans ?_ | refine (if_neg (by omega)).trans ?_)); rfl)
          exact zr_iret X hW dX9_order_41 (Nat.le_of_ble_eq_true rfl) (Nat.le_of_ble_eq_true rfl) ⟨by rw [e9], by rw [e9]; exact hR, zc_fr0⟩
        · refine lv_iload_n X.1 X.2.1 dX9_order_33 rfl (lv_at hl 4 rfl) ?_
          refine zr_callS (As := [.int f]) (rest := []) X hW hl.1 md_X9_isFile ms_X9_98 dX9_order_34 rfl rfl (Nat.le_of_ble_eq_true rfl) ⟨Nat.le_of_ble_eq_true rfl, Nat.le_of_ble_eq_true rfl⟩ ⟨Nat.le_of_ble_eq_true rfl, Nat.le_of_ble_eq_true rfl⟩ (c_X9_isFile l Y N0 ad sh g f) (fun v9 ad9 sh9 g9 H locs hp hW => ?_)
          rcases hp with ⟨rfl, rfl, rfl, ⟨h_35, h9⟩ | ⟨h_35, h9⟩⟩
          · subst h9
            have h_35 : zi_in f 0 2 := h_35
            refine zr_if_ne (a := 1) (tgt := 42) X dX9_order_37 (by decide) (by decide) (fun _ => ?_) (fun c9 => absurd c9 (by decide))
            refine lv_aload_n X.1 X.2.1 dX9_order_42 rfl (lv_at hl 1 rfl) ?_
            refine lv_iconst (v := 0) X.1 X.2.1 dX9_order_43 (by decide) ?_
            refine lv_iconst (v := 1) X.1 X.2.1 dX9_order_44 (by decide) ?_
            refine zr_callV (As := [.int 0, .int 1]) (rest := []) X hW hl.1 md_X9_hasRoom ms_X9_76 dX9_order_45 (zc_s100 hS) rfl rfl rfl rfl (Nat.le_of_ble_eq_true rfl) ⟨Nat.le_of_ble_eq_true rfl, Nat.le_of_ble_eq_true rfl⟩ ⟨Nat.le_of_ble_eq_true rfl, Nat.le_of_ble_eq_true rfl⟩ (c_X9_hasRoom_01 l Y N0 ad sh g u hS hN hI) (fun v9 ad9 sh9 g9 H locs hp hW => ?_)
            rcases hp with ⟨rfl, rfl, rfl, ⟨h_36, h9⟩ | ⟨h_36, h9⟩⟩
            · subst h9
              have h_36 : (u 0 2).toInt + 0 ≤ 200 ∧ (u 0 8).toInt + 1 ≤ 150 := h_36
              refine zr_if_ne (a := 1) (tgt := 54) X dX9_order_48 (by decide) (by decide) (fun _ => ?_) (fun c9 => absurd c9 (by decide))
              refine lv_aload X.1 X.2.1 dX9_order_54 (lv_at hl 0 rfl) ?_
              refine zr_get (r := 116) (v := .ref (ad 136)) X hW fs_X9_137_7 dX9_order_56 (zc_s116 hS) rfl rfl rfl ?_
              refine lv_iconst (v := 1) X.1 X.2.1 dX9_order_59 (by decide) ?_
              refine zr_iald (r := 136) (v := u 24 7) X hW dX9_order_60 (zc_s136 hS) rfl rfl (zi_vp (by decide)) ((show g 136 (1 : Int32).toNatClampNeg = g 136 1 from rfl).trans (hR.2.2.2.1 1 1 (by omega) (by omega) (show ¬ (u 23 7).toInt = -1 by omega))) ?_
              refine lv_istore (lv' := [(6, .int (u 24 7)), (5, .ref (ad 116)), (0, .ref (ad 100)), (1, .int 3), (2, .int o), (3, .int f), (4, .int x)]) X.1 X.2.1 dX9_order_61 hl (by decide) rfl (fun ls hl => ?_)
              have h8 : 0 ≤ (u 0 8).toInt ∧ (u 0 8).toInt < 150 := by omega
              have hsp : sp_order 3 o f x u = (u 0 8, zs_mk (zm_w u 25 3 (u 25 3 + 1)) (zs_v 4 (u 24 7) 3 (-1) (u 1 3) (u 25 3 + 1) 0 o f x)) := (by unfold sp_order; simp only [show zn (3 : Int32) = 3 from rfl, Nat.reduceMul, Nat.reduceAdd]; (first | refine (if_neg (fun h9 => h9 ⟨by decide, by omega⟩)).trans ?_ | refine (if_pos (fun h9 => by obtain ⟨-, h9⟩ := h9; omega)).trans ?_ | refine (if_pos (by omega)).trans ?_); (repeat (first | refine (if_pos (by omega)).trans ?_ | refine (if_neg (by omega)).trans ?_)); rfl)
              refine lv_aload_n X.1 X.2.1 dX9_order_63 rfl (lv_at hl 2 rfl) ?_
              refine zr_new (ss := [none, none, none, none, some none]) X hW cs_X1 ns_X9_140 dX9_order_64 ds_X1 (by intro r h; simp at h) (200 + 2 * zn (u 0 8)) (hR.2.2.2.2.2.2.1 (200 + 2 * zn (u 0 8)) (by omega)) (Nat.le_of_ble_eq_true rfl) (Nat.le_of_ble_eq_true rfl) (fun ad_37 H had_37 hW => ?_)
              obtain ⟨sh_38, hsh_38⟩ : ∃ z : Nat → Option zw_Sh, z = va_up sh (200 + 2 * zn (u 0 8)) (some (.inl (1, [none, none, none, none, some none]))) := ⟨_, rfl⟩
              obtain ⟨g_39, hg_39⟩ : ∃ z : zm_T, z = va_up g (200 + 2 * zn (u 0 8)) (fun _ => 0) := ⟨_, rfl⟩
              rw [← hsh_38, ← hg_39] at hW
              have hS : zc_S sh_38 := by rw [hsh_38]; exact zc_S200 (by omega) hS
              have hN : zc_N g_39 u := by rw [hg_39]; exact zc_Nv hN (by omega)
              refine lv_dup X.1 X.2.1 dX9_order_67 rfl ?_
              refine lv_iload X.1 X.2.1 dX9_order_68 (lv_at hl 0 rfl) ?_
              refine lv_iload_n X.1 X.2.1 dX9_order_70 rfl (lv_at hl 3 rfl) ?_
              refine lv_aload_n X.1 X.2.1 dX9_order_71 rfl (lv_at hl 2 rfl) ?_
              refine zr_get (r := 100) (v := .ref (ad_37 101)) X hW fs_X9_9_8 dX9_order_72 (zc_s100 hS) (had_37 100 (by omega)) rfl rfl ?_
              refine lv_iload_n X.1 X.2.1 dX9_order_75 rfl (lv_at hl 3 rfl) ?_
              refine zr_iald (r := 101) (v := u 1 3) X hW dX9_order_76 (zc_s101 hS) rfl rfl (zi_vp (by decide)) ((show g_39 101 (3 : Int32).toNatClampNeg = g_39 101 3 from rfl).trans ((show g_39 101 3 = g 101 3 from (by rw [hg_39, va_up_ne _ _ (by omega)])).trans (hN0 _ _ _ _ rfl))) ?_
              refine lv_aload X.1 X.2.1 dX9_order_77 (lv_at hl 1 rfl) ?_
              refine zr_callV (As := []) (rest := [.int (u 1 3), .int 3, .int (u 24 7), .ref (ad_37 (200 + 2 * zn (u 0 8))), .ref (ad_37 (200 + 2 * zn (u 0 8))), .ref (ad 100)]) X hW hl.1 md_X8_makeSerial ms_X9_142 dX9_order_79 (zc_s116 hS) rfl rfl rfl (by rw [(had_37 116 (by omega))] <;> rfl) (Nat.le_of_ble_eq_true rfl) ⟨Nat.le_of_ble_eq_true rfl, Nat.le_of_ble_eq_true rfl⟩ ⟨Nat.le_of_ble_eq_true rfl, Nat.le_of_ble_eq_true rfl⟩ (c_X8_makeSerial_1 l Y N0 ad_37 sh_38 g_39 u hS hN) (fun v9 ad9 sh9 g9 H locs hp hW => ?_)
              obtain ⟨rfl, rfl, _, rfl, rfl, rfl⟩ := hp
              obtain ⟨g_41, hg_41⟩ : ∃ z : zm_T, z = zm_w g_39 116 3 (u 25 3 + 1) := ⟨_, rfl⟩
              rw [← hg_41] at hW
              obtain ⟨u_42, hu_42⟩ : ∃ z : zm_T, z = zm_w u 25 3 (u 25 3 + 1) := ⟨_, rfl⟩
              have hN : zc_N g_41 u_42 := by rw [hg_41, hu_42]; exact zc_Nw hN rfl _
              refine zr_new (ss := [none, none, none]) X hW cs_X3 ns_X9_145 dX9_order_82 ds_X3 (by intro r h; simp at h) (201 + 2 * zn (u 0 8)) (show sh_38 (201 + 2 * zn (u 0 8)) = none from (by rw [hsh_38]; exact (va_up_ne _ _ (by omega)).trans (hR.2.2.2.2.2.2.1 (201 + 2 * zn (u 0 8)) (by omega)))) (Nat.le_of_ble_eq_true rfl) (Nat.le_of_ble_eq_true rfl) (fun ad_43 H had_43 hW => ?_)
              obtain ⟨sh_44, hsh_44⟩ : ∃ z : Nat → Option zw_Sh, z = va_up sh_38 (201 + 2 * zn (u 0 8)) (some (.inl (3, [none, none, none]))) := ⟨_, rfl⟩
              obtain ⟨g_45, hg_45⟩ : ∃ z : zm_T, z = va_up g_41 (201 + 2 * zn (u 0 8)) (fun _ => 0) := ⟨_, rfl⟩
              rw [← hsh_44, ← hg_45] at hW
              have hS : zc_S sh_44 := by rw [hsh_44]; exact zc_S200 (by omega) hS
              have hN : zc_N g_45 u_42 := by rw [hg_45]; exact zc_Nv hN (by omega)
              refine lv_dup X.1 X.2.1 dX9_order_85 rfl ?_
              refine lv_iload_n X.1 X.2.1 dX9_order_86 rfl (lv_at hl 4 rfl) ?_
              refine lv_iload_n X.1 X.2.1 dX9_order_87 rfl (lv_at hl 5 rfl) ?_
              refine lv_iload X.1 X.2.1 dX9_order_88 (lv_at hl 6 rfl) ?_
              refine zr_callI (As := [.int o, .int f, .int x]) (rest := [.ref (ad_43 (201 + 2 * zn (u 0 8))), .int (u 25 3 + 1), .int (u 1 3), .int 3, .int (u 24 7), .ref (ad_37 (200 + 2 * zn (u 0 8))), .ref (ad_37 (200 + 2 * zn (u 0 8))), .ref (ad 100)]) (b := ad_43 (201 + 2 * zn (u 0 8))) X hW hl.1 md_X3_init ms_X9_147 rfl dX9_order_90 rfl rfl (Nat.le_of_ble_eq_true rfl) ⟨Nat.le_of_ble_eq_true rfl, Nat.le_of_ble_eq_true rfl⟩ ⟨Nat.le_of_ble_eq_true rfl, Nat.le_of_ble_eq_true rfl⟩ (c_X3_init l Y N0 ad_43 sh_44 g_45 ((201 + 2 * zn (u 0 8))) (show sh_44 (201 + 2 * zn (u 0 8)) = some (.inl (3, [none, none, none])) from (by rw [hsh_44]; exact va_up_self _ _ _)) o f x) (fun v9 ad9 sh9 g9 H locs hp hW => ?_)
              obtain ⟨rfl, rfl, rfl, rfl⟩ := hp
              obtain ⟨g_49, hg_49⟩ : ∃ z : zm_T, z = zm_w g_45 (201 + 2 * zn (u 0 8)) 0 o := ⟨_, rfl⟩
              obtain ⟨g_50, hg_50⟩ : ∃ z : zm_T, z = zm_w g_49 (201 + 2 * zn (u 0 8)) 1 f := ⟨_, rfl⟩
              obtain ⟨g_51, hg_51⟩ : ∃ z : zm_T, z = zm_w g_50 (201 + 2 * zn (u 0 8)) 2 x := ⟨_, rfl⟩
              rw [← hg_49, ← hg_50, ← hg_51] at hW
              have hN : zc_N g_49 u_42 := by rw [hg_49]; exact zc_Nc hN (zc_lm200 (by omega)) _
              have hN : zc_N g_50 u_42 := by rw [hg_50]; exact zc_Nc hN (zc_lm200 (by omega)) _
              have hN : zc_N g_51 u_42 := by rw [hg_51]; exact zc_Nc hN (zc_lm200 (by omega)) _
              refine zr_callI (As := [.int (u 24 7), .int 3, .int (u 1 3), .int (u 25 3 + 1), .ref (ad_43 (201 + 2 * zn (u 0 8)))]) (rest := [.ref (ad_37 (200 + 2 * zn (u 0 8))), .ref (ad 100)]) (b := ad_43 (200 + 2 * zn (u 0 8))) X hW hl.1 md_X1_init ms_X9_148 rfl dX9_order_93 rfl (by rw [(had_43 ((200 + 2 * zn (u 0 8))) (by omega))] <;> rfl) (Nat.le_of_ble_eq_true rfl) ⟨Nat.le_of_ble_eq_true rfl, Nat.le_of_ble_eq_true rfl⟩ ⟨Nat.le_of_ble_eq_true rfl, Nat.le_of_ble_eq_true rfl⟩ (c_X1_init l Y N0 ad_43 sh_44 g_51 ((200 + 2 * zn (u 0 8))) ((201 + 2 * zn (u 0 8))) (show sh_44 (200 + 2 * zn (u 0 8)) = some (.inl (1, [none, none, none, none, some none])) from (by rw [hsh_44]; exact (va_up_ne _ _ (by omega)).trans (show sh_38 (200 + 2 * zn (u 0 8)) = some (.inl (1, [none, none, none, none, some none])) from (by rw [hsh_38]; exact va_up_self _ _ _)))) (by rw [(show sh_44 (201 + 2 * zn (u 0 8)) = some (.inl (3, [none, none, none])) from (by rw [hsh_44]; exact va_up_self _ _ _))]; simp) (u 24 7) 3 (u 1 3) (u 25 3 + 1)) (fun v9 ad9 sh9 g9 H locs hp hW => ?_)
              obtain ⟨rfl, rfl, rfl, rfl⟩ := hp
              obtain ⟨g_56, hg_56⟩ : ∃ z : zm_T, z = zm_w g_51 (200 + 2 * zn (u 0 8)) 0 (u 24 7) := ⟨_, rfl⟩
              obtain ⟨g_57, hg_57⟩ : ∃ z : zm_T, z = zm_w g_56 (200 + 2 * zn (u 0 8)) 1 3 := ⟨_, rfl⟩
              obtain ⟨g_58, hg_58⟩ : ∃ z : zm_T, z = zm_w g_57 (200 + 2 * zn (u 0 8)) 2 (u 1 3) := ⟨_, rfl⟩
              obtain ⟨g_59, hg_59⟩ : ∃ z : zm_T, z = zm_w g_58 (200 + 2 * zn (u 0 8)) 3 (u 25 3 + 1) := ⟨_, rfl⟩
              rw [← hg_56, ← hg_57, ← hg_58, ← hg_59] at hW
              have hN : zc_N g_56 u_42 := by rw [hg_56]; exact zc_Nc hN (zc_lm200 (by omega)) _
              have hN : zc_N g_57 u_42 := by rw [hg_57]; exact zc_Nc hN (zc_lm200 (by omega)) _
              have hN : zc_N g_58 u_42 := by rw [hg_58]; exact zc_Nc hN (zc_lm200 (by omega)) _
              have hN : zc_N g_59 u_42 := by rw [hg_59]; exact zc_Nc hN (zc_lm200 (by omega)) _
              obtain ⟨sh_60, hsh_60⟩ : ∃ z : Nat → Option zw_Sh, z = va_up sh_44 (200 + 2 * zn (u 0 8)) (some (.inl (1, [none, none, none, none, some (some (201 + 2 * zn (u 0 8)))]))) := ⟨_, rfl⟩
              rw [← hsh_60] at hW
              have hS : zc_S sh_60 := by rw [hsh_60]; exact zc_S200 (by omega) hS
              refine zr_callV (As := [.ref (ad_43 (200 + 2 * zn (u 0 8)))]) (rest := []) X hW hl.1 md_X9_keep ms_X9_130 dX9_order_96 (zc_s100 hS) rfl rfl rfl (by rw [((had_43 100 (by omega)).trans (had_37 100 (by omega))), (had_43 ((200 + 2 * zn (u 0 8))) (by omega))] <;> rfl) (Nat.le_of_ble_eq_true rfl) ⟨Nat.le_of_ble_eq_true rfl, Nat.le_of_ble_eq_true rfl⟩ ⟨Nat.le_of_ble_eq_true rfl, Nat.le_of_ble_eq_true rfl⟩ (c_X9_keep_1 l Y N0 ad_43 sh_60 g_59 hS (u 0 8) ((show g_59 100 8 = g_58 100 8 from (by rw [hg_59]; exact zm_wn _ _ (Or.inl (by omega)))).trans ((show g_58 100 8 = g_57 100 8 from (by rw [hg_58]; exact zm_wn _ _ (Or.inl (by omega)))).trans ((show g_57 100 8 = g_56 100 8 from (by rw [hg_57]; exact zm_wn _ _ (Or.inl (by omega)))).trans ((show g_56 100 8 = g_51 100 8 from (by rw [hg_56]; exact zm_wn _ _ (Or.inl (by omega)))).trans ((show g_51 100 8 = g_50 100 8 from (by rw [hg_51]; exact zm_wn _ _ (Or.inl (by omega)))).trans ((show g_50 100 8 = g_49 100 8 from (by rw [hg_50]; exact zm_wn _ _ (Or.inl (by omega)))).trans ((show g_49 100 8 = g_45 100 8 from (by rw [hg_49]; exact zm_wn _ _ (Or.inl (by omega)))).trans ((show g_45 100 8 = g_41 100 8 from (by rw [hg_45, va_up_ne _ _ (by omega)])).trans ((show g_41 100 8 = g_39 100 8 from (by rw [hg_41]; rfl)).trans ((show g_39 100 8 = g 100 8 from (by rw [hg_39, va_up_ne _ _ (by omega)])).trans (hN0 _ _ _ _ rfl))))))))))) h8 (show sh_60 107 = some (.inr (3, 150, some (zc_sf (zn (u 0 8))))) from (by rw [hsh_60]; exact (va_up_ne _ _ (by omega)).trans (show sh_44 107 = some (.inr (3, 150, some (zc_sf (zn (u 0 8))))) from (by rw [hsh_44]; exact (va_up_ne _ _ (by omega)).trans (show sh_38 107 = some (.inr (3, 150, some (zc_sf (zn (u 0 8))))) from (by rw [hsh_38]; exact (va_up_ne _ _ (by omega)).trans hR.2.2.2.2.1)))))) (show sh_60 (200 + 2 * zn (u 0 8)) = some (.inl (1, [none, none, none, none, some (some (201 + 2 * zn (u 0 8)))])) from (by rw [hsh_60]; exact va_up_self _ _ _))) (fun v9 ad9 sh9 g9 H locs hp hW => ?_)
              obtain ⟨rfl, rfl, rfl, rfl⟩ := hp
              obtain ⟨sh_61, hsh_61⟩ : ∃ z : Nat → Option zw_Sh, z = va_up sh_60 107 (some (.inr (3, 150, some (zc_sf (zn (u 0 8) + 1))))) := ⟨_, rfl⟩
              obtain ⟨g_62, hg_62⟩ : ∃ z : zm_T, z = zm_w g_59 100 8 (u 0 8 + 1) := ⟨_, rfl⟩
              rw [← hsh_61, ← hg_62] at hW
              have hN9 : zc_N g_62 (zs_mk u_42 (zs_v 4 (u 24 7) 3 (-1) (u 1 3) (u 25 3 + 1) 0 o f x)) := by
                have e : u_42 0 8 = u 0 8 := by rw [hu_42]; rfl
                rw [hg_62, ← e]; exact zc_Nmk hN _
              have e8 : zn (u_42 0 8) = zn (u 0 8) := by rw [hu_42]; rfl
              have hu9 : ∀ r i : Nat, (r = 20 ∨ r = 22 ∨ r = 23 ∨ r = 24 ∨ r = 29 ∨ (r = 0 ∧ i = 28) ∨ (9 ≤ r ∧ r ≤ 18 ∧ i ≠ zn (u 0 8))) → zs_mk u_42 (zs_v 4 (u 24 7) 3 (-1) (u 1 3) (u 25 3 + 1) 0 o f x) r i = u r i := fun r i h => by
                rw [zs_mku u_42 _ r i (by rw [e8]; exact h)]
                rw [hu_42, zm_wn _ _ (by omega)]
              have hvv : ∀ r : Nat, 9 ≤ r ∧ r ≤ 18 → zs_mk u_42 (zs_v 4 (u 24 7) 3 (-1) (u 1 3) (u 25 3 + 1) 0 o f x) r (zn (u 0 8)) = (zs_v 4 (u 24 7) 3 (-1) (u 1 3) (u 25 3 + 1) 0 o f x) r := fun r h => by rw [← e8]; exact zs_mkn u_42 _ h
              have hsl9 : zc_sl sh_61 g_62 (zs_mk u_42 (zs_v 4 (u 24 7) 3 (-1) (u 1 3) (u 25 3 + 1) 0 o f x)) (zn (u 0 8)) := by
                unfold zc_sl
                rw [hvv 9 (by decide), hvv 10 (by decide), hvv 11 (by decide), hvv 12 (by decide), hvv 13 (by decide), hvv 14 (by decide), hvv 15 (by decide), hvv 16 (by decide), hvv 17 (by decide), hvv 18 (by decide)]
                exact ⟨fun h => absurd (show (4 : Int32).toInt = 1 from h) (by decide), fun h => absurd (show (4 : Int32).toInt = 2 from h) (by decide), fun h => absurd (show (4 : Int32).toInt = 3 from h) (by decide), fun _ => ⟨(show sh_61 (200 + 2 * zn (u 0 8)) = some (.inl (1, [none, none, none, none, some (some (201 + 2 * zn (u 0 8)))])) from (by rw [hsh_61]; exact (va_up_ne _ _ (by omega)).trans (show sh_60 (200 + 2 * zn (u 0 8)) = some (.inl (1, [none, none, none, none, some (some (201 + 2 * zn (u 0 8)))])) from (by rw [hsh_60]; exact va_up_self _ _ _)))), (show sh_61 (201 + 2 * zn (u 0 8)) = some (.inl (3, [none, none, none])) from (by rw [hsh_61]; exact (va_up_ne _ _ (by omega)).trans (show sh_60 (201 + 2 * zn (u 0 8)) = some (.inl (3, [none, none, none])) from (by rw [hsh_60]; exact (va_up_ne _ _ (by omega)).trans (show sh_44 (201 + 2 * zn (u 0 8)) = some (.inl (3, [none, none, none])) from (by rw [hsh_44]; exact va_up_self _ _ _)))))), ((show g_62 (200 + 2 * zn (u 0 8)) 0 = g_59 (200 + 2 * zn (u 0 8)) 0 from (by rw [hg_62, zm_wn _ _ (Or.inl (by omega))])).trans ((show g_59 (200 + 2 * zn (u 0 8)) 0 = g_58 (200 + 2 * zn (u 0 8)) 0 from (by rw [hg_59]; exact zm_wn _ _ (Or.inr (by decide)))).trans ((show g_58 (200 + 2 * zn (u 0 8)) 0 = g_57 (200 + 2 * zn (u 0 8)) 0 from (by rw [hg_58]; exact zm_wn _ _ (Or.inr (by decide)))).trans ((show g_57 (200 + 2 * zn (u 0 8)) 0 = g_56 (200 + 2 * zn (u 0 8)) 0 from (by rw [hg_57]; exact zm_wn _ _ (Or.inr (by decide)))).trans (show g_56 (200 + 2 * zn (u 0 8)) 0 = u 24 7 from (by rw [hg_56]; exact zm_ws _ _ _ _)))))), ((show g_62 (200 + 2 * zn (u 0 8)) 1 = g_59 (200 + 2 * zn (u 0 8)) 1 from (by rw [hg_62, zm_wn _ _ (Or.inl (by omega))])).trans ((show g_59 (200 + 2 * zn (u 0 8)) 1 = g_58 (200 + 2 * zn (u 0 8)) 1 from (by rw [hg_59]; exact zm_wn _ _ (Or.inr (by decide)))).trans ((show g_58 (200 + 2 * zn (u 0 8)) 1 = g_57 (200 + 2 * zn (u 0 8)) 1 from (by rw [hg_58]; exact zm_wn _ _ (Or.inr (by decide)))).trans (show g_57 (200 + 2 * zn (u 0 8)) 1 = 3 from (by rw [hg_57]; exact zm_ws _ _ _ _))))), ((show g_62 (200 + 2 * zn (u 0 8)) 2 = g_59 (200 + 2 * zn (u 0 8)) 2 from (by rw [hg_62, zm_wn _ _ (Or.inl (by omega))])).trans ((show g_59 (200 + 2 * zn (u 0 8)) 2 = g_58 (200 + 2 * zn (u 0 8)) 2 from (by rw [hg_59]; exact zm_wn _ _ (Or.inr (by decide)))).trans (show g_58 (200 + 2 * zn (u 0 8)) 2 = u 1 3 from (by rw [hg_58]; exact zm_ws _ _ _ _)))), ((show g_62 (200 + 2 * zn (u 0 8)) 3 = g_59 (200 + 2 * zn (u 0 8)) 3 from (by rw [hg_62, zm_wn _ _ (Or.inl (by omega))])).trans (show g_59 (200 + 2 * zn (u 0 8)) 3 = u 25 3 + 1 from (by rw [hg_59]; exact zm_ws _ _ _ _))), ((show g_62 (201 + 2 * zn (u 0 8)) 0 = g_59 (201 + 2 * zn (u 0 8)) 0 from (by rw [hg_62, zm_wn _ _ (Or.inl (by omega))])).trans ((show g_59 (201 + 2 * zn (u 0 8)) 0 = g_58 (201 + 2 * zn (u 0 8)) 0 from (by rw [hg_59]; exact zm_wn _ _ (Or.inl (by omega)))).trans ((show g_58 (201 + 2 * zn (u 0 8)) 0 = g_57 (201 + 2 * zn (u 0 8)) 0 from (by rw [hg_58]; exact zm_wn _ _ (Or.inl (by omega)))).trans ((show g_57 (201 + 2 * zn (u 0 8)) 0 = g_56 (201 + 2 * zn (u 0 8)) 0 from (by rw [hg_57]; exact zm_wn _ _ (Or.inl (by omega)))).trans ((show g_56 (201 + 2 * zn (u 0 8)) 0 = g_51 (201 + 2 * zn (u 0 8)) 0 from (by rw [hg_56]; exact zm_wn _ _ (Or.inl (by omega)))).trans ((show g_51 (201 + 2 * zn (u 0 8)) 0 = g_50 (201 + 2 * zn (u 0 8)) 0 from (by rw [hg_51]; exact zm_wn _ _ (Or.inr (by decide)))).trans ((show g_50 (201 + 2 * zn (u 0 8)) 0 = g_49 (201 + 2 * zn (u 0 8)) 0 from (by rw [hg_50]; exact zm_wn _ _ (Or.inr (by decide)))).trans (show g_49 (201 + 2 * zn (u 0 8)) 0 = o from (by rw [hg_49]; exact zm_ws _ _ _ _))))))))), ((show g_62 (201 + 2 * zn (u 0 8)) 1 = g_59 (201 + 2 * zn (u 0 8)) 1 from (by rw [hg_62, zm_wn _ _ (Or.inl (by omega))])).trans ((show g_59 (201 + 2 * zn (u 0 8)) 1 = g_58 (201 + 2 * zn (u 0 8)) 1 from (by rw [hg_59]; exact zm_wn _ _ (Or.inl (by omega)))).trans ((show g_58 (201 + 2 * zn (u 0 8)) 1 = g_57 (201 + 2 * zn (u 0 8)) 1 from (by rw [hg_58]; exact zm_wn _ _ (Or.inl (by omega)))).trans ((show g_57 (201 + 2 * zn (u 0 8)) 1 = g_56 (201 + 2 * zn (u 0 8)) 1 from (by rw [hg_57]; exact zm_wn _ _ (Or.inl (by omega)))).trans ((show g_56 (201 + 2 * zn (u 0 8)) 1 = g_51 (201 + 2 * zn (u 0 8)) 1 from (by rw [hg_56]; exact zm_wn _ _ (Or.inl (by omega)))).trans ((show g_51 (201 + 2 * zn (u 0 8)) 1 = g_50 (201 + 2 * zn (u 0 8)) 1 from (by rw [hg_51]; exact zm_wn _ _ (Or.inr (by decide)))).trans (show g_50 (201 + 2 * zn (u 0 8)) 1 = f from (by rw [hg_50]; exact zm_ws _ _ _ _)))))))), ((show g_62 (201 + 2 * zn (u 0 8)) 2 = g_59 (201 + 2 * zn (u 0 8)) 2 from (by rw [hg_62, zm_wn _ _ (Or.inl (by omega))])).trans ((show g_59 (201 + 2 * zn (u 0 8)) 2 = g_58 (201 + 2 * zn (u 0 8)) 2 from (by rw [hg_59]; exact zm_wn _ _ (Or.inl (by omega)))).trans ((show g_58 (201 + 2 * zn (u 0 8)) 2 = g_57 (201 + 2 * zn (u 0 8)) 2 from (by rw [hg_58]; exact zm_wn _ _ (Or.inl (by omega)))).trans ((show g_57 (201 + 2 * zn (u 0 8)) 2 = g_56 (201 + 2 * zn (u 0 8)) 2 from (by rw [hg_57]; exact zm_wn _ _ (Or.inl (by omega)))).trans ((show g_56 (201 + 2 * zn (u 0 8)) 2 = g_51 (201 + 2 * zn (u 0 8)) 2 from (by rw [hg_56]; exact zm_wn _ _ (Or.inl (by omega)))).trans (show g_51 (201 + 2 * zn (u 0 8)) 2 = x from (by rw [hg_51]; exact zm_ws _ _ _ _)))))))⟩⟩
              have hz9 : zn (zs_mk u_42 (zs_v 4 (u 24 7) 3 (-1) (u 1 3) (u 25 3 + 1) 0 o f x) 0 8) = zn (u 0 8) + 1 := by have q9 := zs_mkz (u := u_42) (by rw [hu_42]; exact h8) (zs_v 4 (u 24 7) 3 (-1) (u 1 3) (u 25 3 + 1) 0 o f x); rw [q9, e8]
              have hR9 : zc_R sh_61 g_62 (zs_mk u_42 (zs_v 4 (u 24 7) 3 (-1) (u 1 3) (u 25 3 + 1) 0 o f x)) := zc_add (n := (zn (u 0 8))) hR rfl hz9 hN9 hu9 (show sh_61 107 = some (.inr (3, 150, some (zc_sf (zn (u 0 8) + 1)))) from (by rw [hsh_61]; exact va_up_self _ _ _)) (fun r h1 h2 h3 => by rw [hsh_61, va_up_ne _ _ (by omega), hsh_60, va_up_ne _ _ (by omega), hsh_44, va_up_ne _ _ (by omega), hsh_38, va_up_ne _ _ (by omega)]) (fun r h1 h2 h3 => by rw [hg_62, zm_wr (by omega), hg_59, zm_wr (by omega), hg_58, zm_wr (by omega), hg_57, zm_wr (by omega), hg_56, zm_wr (by omega), hg_51, zm_wr (by omega), hg_50, zm_wr (by omega), hg_49, zm_wr (by omega), hg_45, va_up_ne _ _ (by omega), hg_41, zm_wr (by omega), hg_39, va_up_ne _ _ (by omega)]) (fun j hj => by rw [hg_62, zm_wn _ _ (by omega), hg_59, zm_wn _ _ (by omega), hg_58, zm_wn _ _ (by omega), hg_57, zm_wn _ _ (by omega), hg_56, zm_wn _ _ (by omega), hg_51, zm_wn _ _ (by omega), hg_50, zm_wn _ _ (by omega), hg_49, zm_wn _ _ (by omega), hg_45, va_up_ne _ _ (by omega), hg_41, zm_wn _ _ (by omega), hg_39, va_up_ne _ _ (by omega)]) hsl9
              have hf9 : zc_fr ad sh g ad_43 sh_61 g_62 := ⟨fun r hr => (had_43 r (by omega)).trans (had_37 r (by omega)), fun r hr => ⟨by rw [hsh_61, va_up_ne _ _ (by omega), hsh_60, va_up_ne _ _ (by omega), hsh_44, va_up_ne _ _ (by omega), hsh_38, va_up_ne _ _ (by omega)], by rw [hg_62, zm_wr (by omega), hg_59, zm_wr (by omega), hg_58, zm_wr (by omega), hg_57, zm_wr (by omega), hg_56, zm_wr (by omega), hg_51, zm_wr (by omega), hg_50, zm_wr (by omega), hg_49, zm_wr (by omega), hg_45, va_up_ne _ _ (by omega), hg_41, zm_wr (by omega), hg_39, va_up_ne _ _ (by omega)]⟩⟩
              rw [hu_42] at hR9
              exact zr_iret X hW dX9_order_99 (Nat.le_of_ble_eq_true rfl) (Nat.le_of_ble_eq_true rfl) ⟨by rw [hsp], by rw [hsp]; exact hR9, hf9⟩
            · subst h9
              have h_36 : ¬ ((u 0 2).toInt + 0 ≤ 200 ∧ (u 0 8).toInt + 1 ≤ 150) := h_36
              refine zr_if_ne (a := 0) (tgt := 54) X dX9_order_48 (by decide) (by decide) (fun c9 => absurd c9 (by decide)) (fun _ => ?_)
              refine lv_bipush (v := (-7)) X.1 X.2.1 dX9_order_51 (by decide) ?_
              have e9 : sp_order 3 o f x u = ((-7), u) := (by unfold sp_order; simp only [show zn (3 : Int32) = 3 from rfl, Nat.reduceMul, Nat.reduceAdd]; (first | refine (if_neg (fun h9 => h9 ⟨by decide, by omega⟩)).trans ?_ | refine (if_pos (fun h9 => by obtain ⟨-, h9⟩ := h9; omega)).trans ?_ | refine (if_pos (by omega)).trans ?_); (repeat (first | refine (if_pos (by omega)).trans ?_ | refine (if_neg (by omega)).trans ?_)); rfl)
              exact zr_iret X hW dX9_order_53 (Nat.le_of_ble_eq_true rfl) (Nat.le_of_ble_eq_true rfl) ⟨by rw [e9], by rw [e9]; exact hR, zc_fr0⟩
          · subst h9
            have h_35 : ¬ (zi_in f 0 2) := h_35
            refine zr_if_ne (a := 0) (tgt := 42) X dX9_order_37 (by decide) (by decide) (fun c9 => absurd c9 (by decide)) (fun _ => ?_)
            refine lv_iconst (v := (-1)) X.1 X.2.1 dX9_order_40 (by decide) ?_
            have e9 : sp_order 3 o f x u = ((-1), u) := (by unfold sp_order; simp only [show zn (3 : Int32) = 3 from rfl, Nat.reduceMul, Nat.reduceAdd]; (first | refine (if_neg (fun h9 => h9 ⟨by decide, by omega⟩)).trans ?_ | refine (if_pos (fun h9 => by obtain ⟨-, h9⟩ := h9; omega)).trans ?_ | refine (if_pos (by omega)).trans ?_); (repeat (first | refine (if_pos (by omega)).trans ?_ | refine (if_neg (by omega)).trans ?_)); rfl)
            exact zr_iret X hW dX9_order_41 (Nat.le_of_ble_eq_true rfl) (Nat.le_of_ble_eq_true rfl) ⟨by rw [e9], by rw [e9]; exact hR, zc_fr0⟩
    · subst h9
      have h_32 : ¬ (0 ≤ (u 23 7).toInt) := h_32
      refine zr_if_ne (a := 0) (tgt := 23) X dX9_order_18 (by decide) (by decide) (fun c9 => absurd c9 (by decide)) (fun _ => ?_)
      refine lv_iconst (v := (-1)) X.1 X.2.1 dX9_order_21 (by decide) ?_
      have e9 : sp_order 3 o f x u = ((-1), u) := (by unfold sp_order; simp only [show zn (3 : Int32) = 3 from rfl, Nat.reduceMul, Nat.reduceAdd]; (first | refine (if_neg (fun h9 => h9 ⟨by decide, by omega⟩)).trans ?_ | refine (if_pos (fun h9 => by obtain ⟨-, h9⟩ := h9; omega)).trans ?_ | refine (if_pos (by omega)).trans ?_); (repeat (first | refine (if_pos (by omega)).trans ?_ | refine (if_neg (by omega)).trans ?_)); rfl)
      exact zr_iret X hW dX9_order_22 (Nat.le_of_ble_eq_true rfl) (Nat.le_of_ble_eq_true rfl) ⟨by rw [e9], by rw [e9]; exact hR, zc_fr0⟩
  · subst h8
    subst h9
    refine lv_astore (lv' := [(5, .ref (ad 117)), (0, .ref (ad 100)), (1, .int 4), (2, .int o), (3, .int f), (4, .int x)]) X.1 X.2.1 dX9_order_5 hl (by decide) rfl (fun ls hl => ?_)
    refine lv_aload X.1 X.2.1 dX9_order_7 (lv_at hl 0 rfl) ?_
    refine lv_ifnull X.1 X.2.1 dX9_order_9 ?_
    refine lv_aload X.1 X.2.1 dX9_order_12 (lv_at hl 0 rfl) ?_
    refine lv_iconst (v := 1) X.1 X.2.1 dX9_order_14 (by decide) ?_
    refine zr_callV (As := [.int 1]) (rest := []) X hW hl.1 md_X8_hasCredential ms_X9_134 dX9_order_15 (zc_s117 hS) rfl rfl rfl rfl (Nat.le_of_ble_eq_true rfl) ⟨Nat.le_of_ble_eq_true rfl, Nat.le_of_ble_eq_true rfl⟩ ⟨Nat.le_of_ble_eq_true rfl, Nat.le_of_ble_eq_true rfl⟩ (c_X8_hasCredential_2_1 l Y N0 ad sh g u hS hN hT) (fun v9 ad9 sh9 g9 H locs hp hW => ?_)
    rcases hp with ⟨rfl, rfl, rfl, ⟨h_63, h9⟩ | ⟨h_63, h9⟩⟩
    · subst h9
      have h_63 : 0 ≤ (u 23 9).toInt := h_63
      refine zr_if_ne (a := 1) (tgt := 23) X dX9_order_18 (by decide) (by decide) (fun _ => ?_) (fun c9 => absurd c9 (by decide))
      refine lv_iload_n X.1 X.2.1 dX9_order_23 rfl (lv_at hl 3 rfl) ?_
      refine lv_iconst (v := 1) X.1 X.2.1 dX9_order_24 (by decide) ?_
      refine zr_icmp_lt (a := (o).toInt) (b := 1) (tgt := 40) X dX9_order_25 (by decide) rfl (by decide) (fun c_64 => ?_) (fun c_64 => ?_)
      · refine lv_iconst (v := (-1)) X.1 X.2.1 dX9_order_40 (by decide) ?_
        have e9 : sp_order 4 o f x u = ((-1), u) := (by unfold sp_order; simp only [show zn (4 : Int32) = 4 from rfl, Nat.reduceMul, Nat.reduceAdd]; (first | refine (if_neg (fun h9 => h9 ⟨by decide, by omega⟩)).trans ?_ | refine (if_pos (fun h9 => by obtain ⟨-, h9⟩ := h9; omega)).trans ?_ | refine (if_pos (by omega)).trans ?_); (repeat (first | refine (if_pos (by omega)).trans ?_ | refine (if_neg (by omega)).trans ?_)); rfl)
        exact zr_iret X hW dX9_order_41 (Nat.le_of_ble_eq_true rfl) (Nat.le_of_ble_eq_true rfl) ⟨by rw [e9], by rw [e9]; exact hR, zc_fr0⟩
      · refine lv_iload_n X.1 X.2.1 dX9_order_28 rfl (lv_at hl 3 rfl) ?_
        refine lv_iconst (v := 3) X.1 X.2.1 dX9_order_29 (by decide) ?_
        refine zr_icmp_gt (a := (o).toInt) (b := 3) (tgt := 40) X dX9_order_30 (by decide) rfl (by decide) (fun c_65 => ?_) (fun c_65 => ?_)
        · refine lv_iconst (v := (-1)) X.1 X.2.1 dX9_order_40 (by decide) ?_
          have e9 : sp_order 4 o f x u = ((-1), u) := (by unfold sp_order; simp only [show zn (4 : Int32) = 4 from rfl, Nat.reduceMul, Nat.reduceAdd]; (first | refine (if_neg (fun h9 => h9 ⟨by decide, by omega⟩)).trans ?_ | refine (if_pos (fun h9 => by obtain ⟨-, h9⟩ := h9; omega)).trans ?_ | refine (if_pos (by omega)).trans ?_); (repeat (first | refine (if_pos (by omega)).trans ?_ | refine (if_neg (by omega)).trans ?_)); rfl)
          exact zr_iret X hW dX9_order_41 (Nat.le_of_ble_eq_true rfl) (Nat.le_of_ble_eq_true rfl) ⟨by rw [e9], by rw [e9]; exact hR, zc_fr0⟩
        · refine lv_iload_n X.1 X.2.1 dX9_order_33 rfl (lv_at hl 4 rfl) ?_
          refine zr_callS (As := [.int f]) (rest := []) X hW hl.1 md_X9_isFile ms_X9_98 dX9_order_34 rfl rfl (Nat.le_of_ble_eq_true rfl) ⟨Nat.le_of_ble_eq_true rfl, Nat.le_of_ble_eq_true rfl⟩ ⟨Nat.le_of_ble_eq_true rfl, Nat.le_of_ble_eq_true rfl⟩ (c_X9_isFile l Y N0 ad sh g f) (fun v9 ad9 sh9 g9 H locs hp hW => ?_)
          rcases hp with ⟨rfl, rfl, rfl, ⟨h_66, h9⟩ | ⟨h_66, h9⟩⟩
          · subst h9
            have h_66 : zi_in f 0 2 := h_66
            refine zr_if_ne (a := 1) (tgt := 42) X dX9_order_37 (by decide) (by decide) (fun _ => ?_) (fun c9 => absurd c9 (by decide))
            refine lv_aload_n X.1 X.2.1 dX9_order_42 rfl (lv_at hl 1 rfl) ?_
            refine lv_iconst (v := 0) X.1 X.2.1 dX9_order_43 (by decide) ?_
            refine lv_iconst (v := 1) X.1 X.2.1 dX9_order_44 (by decide) ?_
            refine zr_callV (As := [.int 0, .int 1]) (rest := []) X hW hl.1 md_X9_hasRoom ms_X9_76 dX9_order_45 (zc_s100 hS) rfl rfl rfl rfl (Nat.le_of_ble_eq_true rfl) ⟨Nat.le_of_ble_eq_true rfl, Nat.le_of_ble_eq_true rfl⟩ ⟨Nat.le_of_ble_eq_true rfl, Nat.le_of_ble_eq_true rfl⟩ (c_X9_hasRoom_01 l Y N0 ad sh g u hS hN hI) (fun v9 ad9 sh9 g9 H locs hp hW => ?_)
            rcases hp with ⟨rfl, rfl, rfl, ⟨h_67, h9⟩ | ⟨h_67, h9⟩⟩
            · subst h9
              have h_67 : (u 0 2).toInt + 0 ≤ 200 ∧ (u 0 8).toInt + 1 ≤ 150 := h_67
              refine zr_if_ne (a := 1) (tgt := 54) X dX9_order_48 (by decide) (by decide) (fun _ => ?_) (fun c9 => absurd c9 (by decide))
              refine lv_aload X.1 X.2.1 dX9_order_54 (lv_at hl 0 rfl) ?_
              refine zr_get (r := 117) (v := .ref (ad 138)) X hW fs_X9_137_7 dX9_order_56 (zc_s117 hS) rfl rfl rfl ?_
              refine lv_iconst (v := 1) X.1 X.2.1 dX9_order_59 (by decide) ?_
              refine zr_iald (r := 138) (v := u 24 9) X hW dX9_order_60 (zc_s138 hS) rfl rfl (zi_vp (by decide)) ((show g 138 (1 : Int32).toNatClampNeg = g 138 1 from rfl).trans (hR.2.2.2.1 2 1 (by omega) (by omega) (show ¬ (u 23 9).toInt = -1 by omega))) ?_
              refine lv_istore (lv' := [(6, .int (u 24 9)), (5, .ref (ad 117)), (0, .ref (ad 100)), (1, .int 4), (2, .int o), (3, .int f), (4, .int x)]) X.1 X.2.1 dX9_order_61 hl (by decide) rfl (fun ls hl => ?_)
              have h8 : 0 ≤ (u 0 8).toInt ∧ (u 0 8).toInt < 150 := by omega
              have hsp : sp_order 4 o f x u = (u 0 8, zs_mk (zm_w u 25 4 (u 25 4 + 1)) (zs_v 4 (u 24 9) 4 (-1) (u 1 4) (u 25 4 + 1) 0 o f x)) := (by unfold sp_order; simp only [show zn (4 : Int32) = 4 from rfl, Nat.reduceMul, Nat.reduceAdd]; (first | refine (if_neg (fun h9 => h9 ⟨by decide, by omega⟩)).trans ?_ | refine (if_pos (fun h9 => by obtain ⟨-, h9⟩ := h9; omega)).trans ?_ | refine (if_pos (by omega)).trans ?_); (repeat (first | refine (if_pos (by omega)).trans ?_ | refine (if_neg (by omega)).trans ?_)); rfl)
              refine lv_aload_n X.1 X.2.1 dX9_order_63 rfl (lv_at hl 2 rfl) ?_
              refine zr_new (ss := [none, none, none, none, some none]) X hW cs_X1 ns_X9_140 dX9_order_64 ds_X1 (by intro r h; simp at h) (200 + 2 * zn (u 0 8)) (hR.2.2.2.2.2.2.1 (200 + 2 * zn (u 0 8)) (by omega)) (Nat.le_of_ble_eq_true rfl) (Nat.le_of_ble_eq_true rfl) (fun ad_68 H had_68 hW => ?_)
              obtain ⟨sh_69, hsh_69⟩ : ∃ z : Nat → Option zw_Sh, z = va_up sh (200 + 2 * zn (u 0 8)) (some (.inl (1, [none, none, none, none, some none]))) := ⟨_, rfl⟩
              obtain ⟨g_70, hg_70⟩ : ∃ z : zm_T, z = va_up g (200 + 2 * zn (u 0 8)) (fun _ => 0) := ⟨_, rfl⟩
              rw [← hsh_69, ← hg_70] at hW
              have hS : zc_S sh_69 := by rw [hsh_69]; exact zc_S200 (by omega) hS
              have hN : zc_N g_70 u := by rw [hg_70]; exact zc_Nv hN (by omega)
              refine lv_dup X.1 X.2.1 dX9_order_67 rfl ?_
              refine lv_iload X.1 X.2.1 dX9_order_68 (lv_at hl 0 rfl) ?_
              refine lv_iload_n X.1 X.2.1 dX9_order_70 rfl (lv_at hl 3 rfl) ?_
              refine lv_aload_n X.1 X.2.1 dX9_order_71 rfl (lv_at hl 2 rfl) ?_
              refine zr_get (r := 100) (v := .ref (ad_68 101)) X hW fs_X9_9_8 dX9_order_72 (zc_s100 hS) (had_68 100 (by omega)) rfl rfl ?_
              refine lv_iload_n X.1 X.2.1 dX9_order_75 rfl (lv_at hl 3 rfl) ?_
              refine zr_iald (r := 101) (v := u 1 4) X hW dX9_order_76 (zc_s101 hS) rfl rfl (zi_vp (by decide)) ((show g_70 101 (4 : Int32).toNatClampNeg = g_70 101 4 from rfl).trans ((show g_70 101 4 = g 101 4 from (by rw [hg_70, va_up_ne _ _ (by omega)])).trans (hN0 _ _ _ _ rfl))) ?_
              refine lv_aload X.1 X.2.1 dX9_order_77 (lv_at hl 1 rfl) ?_
              refine zr_callV (As := []) (rest := [.int (u 1 4), .int 4, .int (u 24 9), .ref (ad_68 (200 + 2 * zn (u 0 8))), .ref (ad_68 (200 + 2 * zn (u 0 8))), .ref (ad 100)]) X hW hl.1 md_X8_makeSerial ms_X9_142 dX9_order_79 (zc_s117 hS) rfl rfl rfl (by rw [(had_68 117 (by omega))] <;> rfl) (Nat.le_of_ble_eq_true rfl) ⟨Nat.le_of_ble_eq_true rfl, Nat.le_of_ble_eq_true rfl⟩ ⟨Nat.le_of_ble_eq_true rfl, Nat.le_of_ble_eq_true rfl⟩ (c_X8_makeSerial_2 l Y N0 ad_68 sh_69 g_70 u hS hN) (fun v9 ad9 sh9 g9 H locs hp hW => ?_)
              obtain ⟨rfl, rfl, _, rfl, rfl, rfl⟩ := hp
              obtain ⟨g_72, hg_72⟩ : ∃ z : zm_T, z = zm_w g_70 117 3 (u 25 4 + 1) := ⟨_, rfl⟩
              rw [← hg_72] at hW
              obtain ⟨u_73, hu_73⟩ : ∃ z : zm_T, z = zm_w u 25 4 (u 25 4 + 1) := ⟨_, rfl⟩
              have hN : zc_N g_72 u_73 := by rw [hg_72, hu_73]; exact zc_Nw hN rfl _
              refine zr_new (ss := [none, none, none]) X hW cs_X3 ns_X9_145 dX9_order_82 ds_X3 (by intro r h; simp at h) (201 + 2 * zn (u 0 8)) (show sh_69 (201 + 2 * zn (u 0 8)) = none from (by rw [hsh_69]; exact (va_up_ne _ _ (by omega)).trans (hR.2.2.2.2.2.2.1 (201 + 2 * zn (u 0 8)) (by omega)))) (Nat.le_of_ble_eq_true rfl) (Nat.le_of_ble_eq_true rfl) (fun ad_74 H had_74 hW => ?_)
              obtain ⟨sh_75, hsh_75⟩ : ∃ z : Nat → Option zw_Sh, z = va_up sh_69 (201 + 2 * zn (u 0 8)) (some (.inl (3, [none, none, none]))) := ⟨_, rfl⟩
              obtain ⟨g_76, hg_76⟩ : ∃ z : zm_T, z = va_up g_72 (201 + 2 * zn (u 0 8)) (fun _ => 0) := ⟨_, rfl⟩
              rw [← hsh_75, ← hg_76] at hW
              have hS : zc_S sh_75 := by rw [hsh_75]; exact zc_S200 (by omega) hS
              have hN : zc_N g_76 u_73 := by rw [hg_76]; exact zc_Nv hN (by omega)
              refine lv_dup X.1 X.2.1 dX9_order_85 rfl ?_
              refine lv_iload_n X.1 X.2.1 dX9_order_86 rfl (lv_at hl 4 rfl) ?_
              refine lv_iload_n X.1 X.2.1 dX9_order_87 rfl (lv_at hl 5 rfl) ?_
              refine lv_iload X.1 X.2.1 dX9_order_88 (lv_at hl 6 rfl) ?_
              refine zr_callI (As := [.int o, .int f, .int x]) (rest := [.ref (ad_74 (201 + 2 * zn (u 0 8))), .int (u 25 4 + 1), .int (u 1 4), .int 4, .int (u 24 9), .ref (ad_68 (200 + 2 * zn (u 0 8))), .ref (ad_68 (200 + 2 * zn (u 0 8))), .ref (ad 100)]) (b := ad_74 (201 + 2 * zn (u 0 8))) X hW hl.1 md_X3_init ms_X9_147 rfl dX9_order_90 rfl rfl (Nat.le_of_ble_eq_true rfl) ⟨Nat.le_of_ble_eq_true rfl, Nat.le_of_ble_eq_true rfl⟩ ⟨Nat.le_of_ble_eq_true rfl, Nat.le_of_ble_eq_true rfl⟩ (c_X3_init l Y N0 ad_74 sh_75 g_76 ((201 + 2 * zn (u 0 8))) (show sh_75 (201 + 2 * zn (u 0 8)) = some (.inl (3, [none, none, none])) from (by rw [hsh_75]; exact va_up_self _ _ _)) o f x) (fun v9 ad9 sh9 g9 H locs hp hW => ?_)
              obtain ⟨rfl, rfl, rfl, rfl⟩ := hp
              obtain ⟨g_80, hg_80⟩ : ∃ z : zm_T, z = zm_w g_76 (201 + 2 * zn (u 0 8)) 0 o := ⟨_, rfl⟩
              obtain ⟨g_81, hg_81⟩ : ∃ z : zm_T, z = zm_w g_80 (201 + 2 * zn (u 0 8)) 1 f := ⟨_, rfl⟩
              obtain ⟨g_82, hg_82⟩ : ∃ z : zm_T, z = zm_w g_81 (201 + 2 * zn (u 0 8)) 2 x := ⟨_, rfl⟩
              rw [← hg_80, ← hg_81, ← hg_82] at hW
              have hN : zc_N g_80 u_73 := by rw [hg_80]; exact zc_Nc hN (zc_lm200 (by omega)) _
              have hN : zc_N g_81 u_73 := by rw [hg_81]; exact zc_Nc hN (zc_lm200 (by omega)) _
              have hN : zc_N g_82 u_73 := by rw [hg_82]; exact zc_Nc hN (zc_lm200 (by omega)) _
              refine zr_callI (As := [.int (u 24 9), .int 4, .int (u 1 4), .int (u 25 4 + 1), .ref (ad_74 (201 + 2 * zn (u 0 8)))]) (rest := [.ref (ad_68 (200 + 2 * zn (u 0 8))), .ref (ad 100)]) (b := ad_74 (200 + 2 * zn (u 0 8))) X hW hl.1 md_X1_init ms_X9_148 rfl dX9_order_93 rfl (by rw [(had_74 ((200 + 2 * zn (u 0 8))) (by omega))] <;> rfl) (Nat.le_of_ble_eq_true rfl) ⟨Nat.le_of_ble_eq_true rfl, Nat.le_of_ble_eq_true rfl⟩ ⟨Nat.le_of_ble_eq_true rfl, Nat.le_of_ble_eq_true rfl⟩ (c_X1_init l Y N0 ad_74 sh_75 g_82 ((200 + 2 * zn (u 0 8))) ((201 + 2 * zn (u 0 8))) (show sh_75 (200 + 2 * zn (u 0 8)) = some (.inl (1, [none, none, none, none, some none])) from (by rw [hsh_75]; exact (va_up_ne _ _ (by omega)).trans (show sh_69 (200 + 2 * zn (u 0 8)) = some (.inl (1, [none, none, none, none, some none])) from (by rw [hsh_69]; exact va_up_self _ _ _)))) (by rw [(show sh_75 (201 + 2 * zn (u 0 8)) = some (.inl (3, [none, none, none])) from (by rw [hsh_75]; exact va_up_self _ _ _))]; simp) (u 24 9) 4 (u 1 4) (u 25 4 + 1)) (fun v9 ad9 sh9 g9 H locs hp hW => ?_)
              obtain ⟨rfl, rfl, rfl, rfl⟩ := hp
              obtain ⟨g_87, hg_87⟩ : ∃ z : zm_T, z = zm_w g_82 (200 + 2 * zn (u 0 8)) 0 (u 24 9) := ⟨_, rfl⟩
              obtain ⟨g_88, hg_88⟩ : ∃ z : zm_T, z = zm_w g_87 (200 + 2 * zn (u 0 8)) 1 4 := ⟨_, rfl⟩
              obtain ⟨g_89, hg_89⟩ : ∃ z : zm_T, z = zm_w g_88 (200 + 2 * zn (u 0 8)) 2 (u 1 4) := ⟨_, rfl⟩
              obtain ⟨g_90, hg_90⟩ : ∃ z : zm_T, z = zm_w g_89 (200 + 2 * zn (u 0 8)) 3 (u 25 4 + 1) := ⟨_, rfl⟩
              rw [← hg_87, ← hg_88, ← hg_89, ← hg_90] at hW
              have hN : zc_N g_87 u_73 := by rw [hg_87]; exact zc_Nc hN (zc_lm200 (by omega)) _
              have hN : zc_N g_88 u_73 := by rw [hg_88]; exact zc_Nc hN (zc_lm200 (by omega)) _
              have hN : zc_N g_89 u_73 := by rw [hg_89]; exact zc_Nc hN (zc_lm200 (by omega)) _
              have hN : zc_N g_90 u_73 := by rw [hg_90]; exact zc_Nc hN (zc_lm200 (by omega)) _
              obtain ⟨sh_91, hsh_91⟩ : ∃ z : Nat → Option zw_Sh, z = va_up sh_75 (200 + 2 * zn (u 0 8)) (some (.inl (1, [none, none, none, none, some (some (201 + 2 * zn (u 0 8)))]))) := ⟨_, rfl⟩
              rw [← hsh_91] at hW
              have hS : zc_S sh_91 := by rw [hsh_91]; exact zc_S200 (by omega) hS
              refine zr_callV (As := [.ref (ad_74 (200 + 2 * zn (u 0 8)))]) (rest := []) X hW hl.1 md_X9_keep ms_X9_130 dX9_order_96 (zc_s100 hS) rfl rfl rfl (by rw [((had_74 100 (by omega)).trans (had_68 100 (by omega))), (had_74 ((200 + 2 * zn (u 0 8))) (by omega))] <;> rfl) (Nat.le_of_ble_eq_true rfl) ⟨Nat.le_of_ble_eq_true rfl, Nat.le_of_ble_eq_true rfl⟩ ⟨Nat.le_of_ble_eq_true rfl, Nat.le_of_ble_eq_true rfl⟩ (c_X9_keep_1 l Y N0 ad_74 sh_91 g_90 hS (u 0 8) ((show g_90 100 8 = g_89 100 8 from (by rw [hg_90]; exact zm_wn _ _ (Or.inl (by omega)))).trans ((show g_89 100 8 = g_88 100 8 from (by rw [hg_89]; exact zm_wn _ _ (Or.inl (by omega)))).trans ((show g_88 100 8 = g_87 100 8 from (by rw [hg_88]; exact zm_wn _ _ (Or.inl (by omega)))).trans ((show g_87 100 8 = g_82 100 8 from (by rw [hg_87]; exact zm_wn _ _ (Or.inl (by omega)))).trans ((show g_82 100 8 = g_81 100 8 from (by rw [hg_82]; exact zm_wn _ _ (Or.inl (by omega)))).trans ((show g_81 100 8 = g_80 100 8 from (by rw [hg_81]; exact zm_wn _ _ (Or.inl (by omega)))).trans ((show g_80 100 8 = g_76 100 8 from (by rw [hg_80]; exact zm_wn _ _ (Or.inl (by omega)))).trans ((show g_76 100 8 = g_72 100 8 from (by rw [hg_76, va_up_ne _ _ (by omega)])).trans ((show g_72 100 8 = g_70 100 8 from (by rw [hg_72]; rfl)).trans ((show g_70 100 8 = g 100 8 from (by rw [hg_70, va_up_ne _ _ (by omega)])).trans (hN0 _ _ _ _ rfl))))))))))) h8 (show sh_91 107 = some (.inr (3, 150, some (zc_sf (zn (u 0 8))))) from (by rw [hsh_91]; exact (va_up_ne _ _ (by omega)).trans (show sh_75 107 = some (.inr (3, 150, some (zc_sf (zn (u 0 8))))) from (by rw [hsh_75]; exact (va_up_ne _ _ (by omega)).trans (show sh_69 107 = some (.inr (3, 150, some (zc_sf (zn (u 0 8))))) from (by rw [hsh_69]; exact (va_up_ne _ _ (by omega)).trans hR.2.2.2.2.1)))))) (show sh_91 (200 + 2 * zn (u 0 8)) = some (.inl (1, [none, none, none, none, some (some (201 + 2 * zn (u 0 8)))])) from (by rw [hsh_91]; exact va_up_self _ _ _))) (fun v9 ad9 sh9 g9 H locs hp hW => ?_)
              obtain ⟨rfl, rfl, rfl, rfl⟩ := hp
              obtain ⟨sh_92, hsh_92⟩ : ∃ z : Nat → Option zw_Sh, z = va_up sh_91 107 (some (.inr (3, 150, some (zc_sf (zn (u 0 8) + 1))))) := ⟨_, rfl⟩
              obtain ⟨g_93, hg_93⟩ : ∃ z : zm_T, z = zm_w g_90 100 8 (u 0 8 + 1) := ⟨_, rfl⟩
              rw [← hsh_92, ← hg_93] at hW
              have hN9 : zc_N g_93 (zs_mk u_73 (zs_v 4 (u 24 9) 4 (-1) (u 1 4) (u 25 4 + 1) 0 o f x)) := by
                have e : u_73 0 8 = u 0 8 := by rw [hu_73]; rfl
                rw [hg_93, ← e]; exact zc_Nmk hN _
              have e8 : zn (u_73 0 8) = zn (u 0 8) := by rw [hu_73]; rfl
              have hu9 : ∀ r i : Nat, (r = 20 ∨ r = 22 ∨ r = 23 ∨ r = 24 ∨ r = 29 ∨ (r = 0 ∧ i = 28) ∨ (9 ≤ r ∧ r ≤ 18 ∧ i ≠ zn (u 0 8))) → zs_mk u_73 (zs_v 4 (u 24 9) 4 (-1) (u 1 4) (u 25 4 + 1) 0 o f x) r i = u r i := fun r i h => by
                rw [zs_mku u_73 _ r i (by rw [e8]; exact h)]
                rw [hu_73, zm_wn _ _ (by omega)]
              have hvv : ∀ r : Nat, 9 ≤ r ∧ r ≤ 18 → zs_mk u_73 (zs_v 4 (u 24 9) 4 (-1) (u 1 4) (u 25 4 + 1) 0 o f x) r (zn (u 0 8)) = (zs_v 4 (u 24 9) 4 (-1) (u 1 4) (u 25 4 + 1) 0 o f x) r := fun r h => by rw [← e8]; exact zs_mkn u_73 _ h
              have hsl9 : zc_sl sh_92 g_93 (zs_mk u_73 (zs_v 4 (u 24 9) 4 (-1) (u 1 4) (u 25 4 + 1) 0 o f x)) (zn (u 0 8)) := by
                unfold zc_sl
                rw [hvv 9 (by decide), hvv 10 (by decide), hvv 11 (by decide), hvv 12 (by decide), hvv 13 (by decide), hvv 14 (by decide), hvv 15 (by decide), hvv 16 (by decide), hvv 17 (by decide), hvv 18 (by decide)]
                exact ⟨fun h => absurd (show (4 : Int32).toInt = 1 from h) (by decide), fun h => absurd (show (4 : Int32).toInt = 2 from h) (by decide), fun h => absurd (show (4 : Int32).toInt = 3 from h) (by decide), fun _ => ⟨(show sh_92 (200 + 2 * zn (u 0 8)) = some (.inl (1, [none, none, none, none, some (some (201 + 2 * zn (u 0 8)))])) from (by rw [hsh_92]; exact (va_up_ne _ _ (by omega)).trans (show sh_91 (200 + 2 * zn (u 0 8)) = some (.inl (1, [none, none, none, none, some (some (201 + 2 * zn (u 0 8)))])) from (by rw [hsh_91]; exact va_up_self _ _ _)))), (show sh_92 (201 + 2 * zn (u 0 8)) = some (.inl (3, [none, none, none])) from (by rw [hsh_92]; exact (va_up_ne _ _ (by omega)).trans (show sh_91 (201 + 2 * zn (u 0 8)) = some (.inl (3, [none, none, none])) from (by rw [hsh_91]; exact (va_up_ne _ _ (by omega)).trans (show sh_75 (201 + 2 * zn (u 0 8)) = some (.inl (3, [none, none, none])) from (by rw [hsh_75]; exact va_up_self _ _ _)))))), ((show g_93 (200 + 2 * zn (u 0 8)) 0 = g_90 (200 + 2 * zn (u 0 8)) 0 from (by rw [hg_93, zm_wn _ _ (Or.inl (by omega))])).trans ((show g_90 (200 + 2 * zn (u 0 8)) 0 = g_89 (200 + 2 * zn (u 0 8)) 0 from (by rw [hg_90]; exact zm_wn _ _ (Or.inr (by decide)))).trans ((show g_89 (200 + 2 * zn (u 0 8)) 0 = g_88 (200 + 2 * zn (u 0 8)) 0 from (by rw [hg_89]; exact zm_wn _ _ (Or.inr (by decide)))).trans ((show g_88 (200 + 2 * zn (u 0 8)) 0 = g_87 (200 + 2 * zn (u 0 8)) 0 from (by rw [hg_88]; exact zm_wn _ _ (Or.inr (by decide)))).trans (show g_87 (200 + 2 * zn (u 0 8)) 0 = u 24 9 from (by rw [hg_87]; exact zm_ws _ _ _ _)))))), ((show g_93 (200 + 2 * zn (u 0 8)) 1 = g_90 (200 + 2 * zn (u 0 8)) 1 from (by rw [hg_93, zm_wn _ _ (Or.inl (by omega))])).trans ((show g_90 (200 + 2 * zn (u 0 8)) 1 = g_89 (200 + 2 * zn (u 0 8)) 1 from (by rw [hg_90]; exact zm_wn _ _ (Or.inr (by decide)))).trans ((show g_89 (200 + 2 * zn (u 0 8)) 1 = g_88 (200 + 2 * zn (u 0 8)) 1 from (by rw [hg_89]; exact zm_wn _ _ (Or.inr (by decide)))).trans (show g_88 (200 + 2 * zn (u 0 8)) 1 = 4 from (by rw [hg_88]; exact zm_ws _ _ _ _))))), ((show g_93 (200 + 2 * zn (u 0 8)) 2 = g_90 (200 + 2 * zn (u 0 8)) 2 from (by rw [hg_93, zm_wn _ _ (Or.inl (by omega))])).trans ((show g_90 (200 + 2 * zn (u 0 8)) 2 = g_89 (200 + 2 * zn (u 0 8)) 2 from (by rw [hg_90]; exact zm_wn _ _ (Or.inr (by decide)))).trans (show g_89 (200 + 2 * zn (u 0 8)) 2 = u 1 4 from (by rw [hg_89]; exact zm_ws _ _ _ _)))), ((show g_93 (200 + 2 * zn (u 0 8)) 3 = g_90 (200 + 2 * zn (u 0 8)) 3 from (by rw [hg_93, zm_wn _ _ (Or.inl (by omega))])).trans (show g_90 (200 + 2 * zn (u 0 8)) 3 = u 25 4 + 1 from (by rw [hg_90]; exact zm_ws _ _ _ _))), ((show g_93 (201 + 2 * zn (u 0 8)) 0 = g_90 (201 + 2 * zn (u 0 8)) 0 from (by rw [hg_93, zm_wn _ _ (Or.inl (by omega))])).trans ((show g_90 (201 + 2 * zn (u 0 8)) 0 = g_89 (201 + 2 * zn (u 0 8)) 0 from (by rw [hg_90]; exact zm_wn _ _ (Or.inl (by omega)))).trans ((show g_89 (201 + 2 * zn (u 0 8)) 0 = g_88 (201 + 2 * zn (u 0 8)) 0 from (by rw [hg_89]; exact zm_wn _ _ (Or.inl (by omega)))).trans ((show g_88 (201 + 2 * zn (u 0 8)) 0 = g_87 (201 + 2 * zn (u 0 8)) 0 from (by rw [hg_88]; exact zm_wn _ _ (Or.inl (by omega)))).trans ((show g_87 (201 + 2 * zn (u 0 8)) 0 = g_82 (201 + 2 * zn (u 0 8)) 0 from (by rw [hg_87]; exact zm_wn _ _ (Or.inl (by omega)))).trans ((show g_82 (201 + 2 * zn (u 0 8)) 0 = g_81 (201 + 2 * zn (u 0 8)) 0 from (by rw [hg_82]; exact zm_wn _ _ (Or.inr (by decide)))).trans ((show g_81 (201 + 2 * zn (u 0 8)) 0 = g_80 (201 + 2 * zn (u 0 8)) 0 from (by rw [hg_81]; exact zm_wn _ _ (Or.inr (by decide)))).trans (show g_80 (201 + 2 * zn (u 0 8)) 0 = o from (by rw [hg_80]; exact zm_ws _ _ _ _))))))))), ((show g_93 (201 + 2 * zn (u 0 8)) 1 = g_90 (201 + 2 * zn (u 0 8)) 1 from (by rw [hg_93, zm_wn _ _ (Or.inl (by omega))])).trans ((show g_90 (201 + 2 * zn (u 0 8)) 1 = g_89 (201 + 2 * zn (u 0 8)) 1 from (by rw [hg_90]; exact zm_wn _ _ (Or.inl (by omega)))).trans ((show g_89 (201 + 2 * zn (u 0 8)) 1 = g_88 (201 + 2 * zn (u 0 8)) 1 from (by rw [hg_89]; exact zm_wn _ _ (Or.inl (by omega)))).trans ((show g_88 (201 + 2 * zn (u 0 8)) 1 = g_87 (201 + 2 * zn (u 0 8)) 1 from (by rw [hg_88]; exact zm_wn _ _ (Or.inl (by omega)))).trans ((show g_87 (201 + 2 * zn (u 0 8)) 1 = g_82 (201 + 2 * zn (u 0 8)) 1 from (by rw [hg_87]; exact zm_wn _ _ (Or.inl (by omega)))).trans ((show g_82 (201 + 2 * zn (u 0 8)) 1 = g_81 (201 + 2 * zn (u 0 8)) 1 from (by rw [hg_82]; exact zm_wn _ _ (Or.inr (by decide)))).trans (show g_81 (201 + 2 * zn (u 0 8)) 1 = f from (by rw [hg_81]; exact zm_ws _ _ _ _)))))))), ((show g_93 (201 + 2 * zn (u 0 8)) 2 = g_90 (201 + 2 * zn (u 0 8)) 2 from (by rw [hg_93, zm_wn _ _ (Or.inl (by omega))])).trans ((show g_90 (201 + 2 * zn (u 0 8)) 2 = g_89 (201 + 2 * zn (u 0 8)) 2 from (by rw [hg_90]; exact zm_wn _ _ (Or.inl (by omega)))).trans ((show g_89 (201 + 2 * zn (u 0 8)) 2 = g_88 (201 + 2 * zn (u 0 8)) 2 from (by rw [hg_89]; exact zm_wn _ _ (Or.inl (by omega)))).trans ((show g_88 (201 + 2 * zn (u 0 8)) 2 = g_87 (201 + 2 * zn (u 0 8)) 2 from (by rw [hg_88]; exact zm_wn _ _ (Or.inl (by omega)))).trans ((show g_87 (201 + 2 * zn (u 0 8)) 2 = g_82 (201 + 2 * zn (u 0 8)) 2 from (by rw [hg_87]; exact zm_wn _ _ (Or.inl (by omega)))).trans (show g_82 (201 + 2 * zn (u 0 8)) 2 = x from (by rw [hg_82]; exact zm_ws _ _ _ _)))))))⟩⟩
              have hz9 : zn (zs_mk u_73 (zs_v 4 (u 24 9) 4 (-1) (u 1 4) (u 25 4 + 1) 0 o f x) 0 8) = zn (u 0 8) + 1 := by have q9 := zs_mkz (u := u_73) (by rw [hu_73]; exact h8) (zs_v 4 (u 24 9) 4 (-1) (u 1 4) (u 25 4 + 1) 0 o f x); rw [q9, e8]
              have hR9 : zc_R sh_92 g_93 (zs_mk u_73 (zs_v 4 (u 24 9) 4 (-1) (u 1 4) (u 25 4 + 1) 0 o f x)) := zc_add (n := (zn (u 0 8))) hR rfl hz9 hN9 hu9 (show sh_92 107 = some (.inr (3, 150, some (zc_sf (zn (u 0 8) + 1)))) from (by rw [hsh_92]; exact va_up_self _ _ _)) (fun r h1 h2 h3 => by rw [hsh_92, va_up_ne _ _ (by omega), hsh_91, va_up_ne _ _ (by omega), hsh_75, va_up_ne _ _ (by omega), hsh_69, va_up_ne _ _ (by omega)]) (fun r h1 h2 h3 => by rw [hg_93, zm_wr (by omega), hg_90, zm_wr (by omega), hg_89, zm_wr (by omega), hg_88, zm_wr (by omega), hg_87, zm_wr (by omega), hg_82, zm_wr (by omega), hg_81, zm_wr (by omega), hg_80, zm_wr (by omega), hg_76, va_up_ne _ _ (by omega), hg_72, zm_wr (by omega), hg_70, va_up_ne _ _ (by omega)]) (fun j hj => by rw [hg_93, zm_wn _ _ (by omega), hg_90, zm_wn _ _ (by omega), hg_89, zm_wn _ _ (by omega), hg_88, zm_wn _ _ (by omega), hg_87, zm_wn _ _ (by omega), hg_82, zm_wn _ _ (by omega), hg_81, zm_wn _ _ (by omega), hg_80, zm_wn _ _ (by omega), hg_76, va_up_ne _ _ (by omega), hg_72, zm_wn _ _ (by omega), hg_70, va_up_ne _ _ (by omega)]) hsl9
              have hf9 : zc_fr ad sh g ad_74 sh_92 g_93 := ⟨fun r hr => (had_74 r (by omega)).trans (had_68 r (by omega)), fun r hr => ⟨by rw [hsh_92, va_up_ne _ _ (by omega), hsh_91, va_up_ne _ _ (by omega), hsh_75, va_up_ne _ _ (by omega), hsh_69, va_up_ne _ _ (by omega)], by rw [hg_93, zm_wr (by omega), hg_90, zm_wr (by omega), hg_89, zm_wr (by omega), hg_88, zm_wr (by omega), hg_87, zm_wr (by omega), hg_82, zm_wr (by omega), hg_81, zm_wr (by omega), hg_80, zm_wr (by omega), hg_76, va_up_ne _ _ (by omega), hg_72, zm_wr (by omega), hg_70, va_up_ne _ _ (by omega)]⟩⟩
              rw [hu_73] at hR9
              exact zr_iret X hW dX9_order_99 (Nat.le_of_ble_eq_true rfl) (Nat.le_of_ble_eq_true rfl) ⟨by rw [hsp], by rw [hsp]; exact hR9, hf9⟩
            · subst h9
              have h_67 : ¬ ((u 0 2).toInt + 0 ≤ 200 ∧ (u 0 8).toInt + 1 ≤ 150) := h_67
              refine zr_if_ne (a := 0) (tgt := 54) X dX9_order_48 (by decide) (by decide) (fun c9 => absurd c9 (by decide)) (fun _ => ?_)
              refine lv_bipush (v := (-7)) X.1 X.2.1 dX9_order_51 (by decide) ?_
              have e9 : sp_order 4 o f x u = ((-7), u) := (by unfold sp_order; simp only [show zn (4 : Int32) = 4 from rfl, Nat.reduceMul, Nat.reduceAdd]; (first | refine (if_neg (fun h9 => h9 ⟨by decide, by omega⟩)).trans ?_ | refine (if_pos (fun h9 => by obtain ⟨-, h9⟩ := h9; omega)).trans ?_ | refine (if_pos (by omega)).trans ?_); (repeat (first | refine (if_pos (by omega)).trans ?_ | refine (if_neg (by omega)).trans ?_)); rfl)
              exact zr_iret X hW dX9_order_53 (Nat.le_of_ble_eq_true rfl) (Nat.le_of_ble_eq_true rfl) ⟨by rw [e9], by rw [e9]; exact hR, zc_fr0⟩
          · subst h9
            have h_66 : ¬ (zi_in f 0 2) := h_66
            refine zr_if_ne (a := 0) (tgt := 42) X dX9_order_37 (by decide) (by decide) (fun c9 => absurd c9 (by decide)) (fun _ => ?_)
            refine lv_iconst (v := (-1)) X.1 X.2.1 dX9_order_40 (by decide) ?_
            have e9 : sp_order 4 o f x u = ((-1), u) := (by unfold sp_order; simp only [show zn (4 : Int32) = 4 from rfl, Nat.reduceMul, Nat.reduceAdd]; (first | refine (if_neg (fun h9 => h9 ⟨by decide, by omega⟩)).trans ?_ | refine (if_pos (fun h9 => by obtain ⟨-, h9⟩ := h9; omega)).trans ?_ | refine (if_pos (by omega)).trans ?_); (repeat (first | refine (if_pos (by omega)).trans ?_ | refine (if_neg (by omega)).trans ?_)); rfl)
            exact zr_iret X hW dX9_order_41 (Nat.le_of_ble_eq_true rfl) (Nat.le_of_ble_eq_true rfl) ⟨by rw [e9], by rw [e9]; exact hR, zc_fr0⟩
    · subst h9
      have h_63 : ¬ (0 ≤ (u 23 9).toInt) := h_63
      refine zr_if_ne (a := 0) (tgt := 23) X dX9_order_18 (by decide) (by decide) (fun c9 => absurd c9 (by decide)) (fun _ => ?_)
      refine lv_iconst (v := (-1)) X.1 X.2.1 dX9_order_21 (by decide) ?_
      have e9 : sp_order 4 o f x u = ((-1), u) := (by unfold sp_order; simp only [show zn (4 : Int32) = 4 from rfl, Nat.reduceMul, Nat.reduceAdd]; (first | refine (if_neg (fun h9 => h9 ⟨by decide, by omega⟩)).trans ?_ | refine (if_pos (fun h9 => by obtain ⟨-, h9⟩ := h9; omega)).trans ?_ | refine (if_pos (by omega)).trans ?_); (repeat (first | refine (if_pos (by omega)).trans ?_ | refine (if_neg (by omega)).trans ?_)); rfl)
      exact zr_iret X hW dX9_order_22 (Nat.le_of_ble_eq_true rfl) (Nat.le_of_ble_eq_true rfl) ⟨by rw [e9], by rw [e9]; exact hR, zc_fr0⟩
  · subst h8
    subst h9
    refine lv_astore (lv' := [(5, .ref (ad 118)), (0, .ref (ad 100)), (1, .int 5), (2, .int o), (3, .int f), (4, .int x)]) X.1 X.2.1 dX9_order_5 hl (by decide) rfl (fun ls hl => ?_)
    refine lv_aload X.1 X.2.1 dX9_order_7 (lv_at hl 0 rfl) ?_
    refine lv_ifnull X.1 X.2.1 dX9_order_9 ?_
    refine lv_aload X.1 X.2.1 dX9_order_12 (lv_at hl 0 rfl) ?_
    refine lv_iconst (v := 1) X.1 X.2.1 dX9_order_14 (by decide) ?_
    refine zr_callV (As := [.int 1]) (rest := []) X hW hl.1 md_X8_hasCredential ms_X9_134 dX9_order_15 (zc_s118 hS) rfl rfl rfl rfl (Nat.le_of_ble_eq_true rfl) ⟨Nat.le_of_ble_eq_true rfl, Nat.le_of_ble_eq_true rfl⟩ ⟨Nat.le_of_ble_eq_true rfl, Nat.le_of_ble_eq_true rfl⟩ (c_X8_hasCredential_3_1 l Y N0 ad sh g u hS hN hT) (fun v9 ad9 sh9 g9 H locs hp hW => ?_)
    rcases hp with ⟨rfl, rfl, rfl, ⟨h_94, h9⟩ | ⟨h_94, h9⟩⟩
    · subst h9
      have h_94 : 0 ≤ (u 23 11).toInt := h_94
      refine zr_if_ne (a := 1) (tgt := 23) X dX9_order_18 (by decide) (by decide) (fun _ => ?_) (fun c9 => absurd c9 (by decide))
      refine lv_iload_n X.1 X.2.1 dX9_order_23 rfl (lv_at hl 3 rfl) ?_
      refine lv_iconst (v := 1) X.1 X.2.1 dX9_order_24 (by decide) ?_
      refine zr_icmp_lt (a := (o).toInt) (b := 1) (tgt := 40) X dX9_order_25 (by decide) rfl (by decide) (fun c_95 => ?_) (fun c_95 => ?_)
      · refine lv_iconst (v := (-1)) X.1 X.2.1 dX9_order_40 (by decide) ?_
        have e9 : sp_order 5 o f x u = ((-1), u) := (by unfold sp_order; simp only [show zn (5 : Int32) = 5 from rfl, Nat.reduceMul, Nat.reduceAdd]; (first | refine (if_neg (fun h9 => h9 ⟨by decide, by omega⟩)).trans ?_ | refine (if_pos (fun h9 => by obtain ⟨-, h9⟩ := h9; omega)).trans ?_ | refine (if_pos (by omega)).trans ?_); (repeat (first | refine (if_pos (by omega)).trans ?_ | refine (if_neg (by omega)).trans ?_)); rfl)
        exact zr_iret X hW dX9_order_41 (Nat.le_of_ble_eq_true rfl) (Nat.le_of_ble_eq_true rfl) ⟨by rw [e9], by rw [e9]; exact hR, zc_fr0⟩
      · refine lv_iload_n X.1 X.2.1 dX9_order_28 rfl (lv_at hl 3 rfl) ?_
        refine lv_iconst (v := 3) X.1 X.2.1 dX9_order_29 (by decide) ?_
        refine zr_icmp_gt (a := (o).toInt) (b := 3) (tgt := 40) X dX9_order_30 (by decide) rfl (by decide) (fun c_96 => ?_) (fun c_96 => ?_)
        · refine lv_iconst (v := (-1)) X.1 X.2.1 dX9_order_40 (by decide) ?_
          have e9 : sp_order 5 o f x u = ((-1), u) := (by unfold sp_order; simp only [show zn (5 : Int32) = 5 from rfl, Nat.reduceMul, Nat.reduceAdd]; (first | refine (if_neg (fun h9 => h9 ⟨by decide, by omega⟩)).trans ?_ | refine (if_pos (fun h9 => by obtain ⟨-, h9⟩ := h9; omega)).trans ?_ | refine (if_pos (by omega)).trans ?_); (repeat (first | refine (if_pos (by omega)).trans ?_ | refine (if_neg (by omega)).trans ?_)); rfl)
          exact zr_iret X hW dX9_order_41 (Nat.le_of_ble_eq_true rfl) (Nat.le_of_ble_eq_true rfl) ⟨by rw [e9], by rw [e9]; exact hR, zc_fr0⟩
        · refine lv_iload_n X.1 X.2.1 dX9_order_33 rfl (lv_at hl 4 rfl) ?_
          refine zr_callS (As := [.int f]) (rest := []) X hW hl.1 md_X9_isFile ms_X9_98 dX9_order_34 rfl rfl (Nat.le_of_ble_eq_true rfl) ⟨Nat.le_of_ble_eq_true rfl, Nat.le_of_ble_eq_true rfl⟩ ⟨Nat.le_of_ble_eq_true rfl, Nat.le_of_ble_eq_true rfl⟩ (c_X9_isFile l Y N0 ad sh g f) (fun v9 ad9 sh9 g9 H locs hp hW => ?_)
          rcases hp with ⟨rfl, rfl, rfl, ⟨h_97, h9⟩ | ⟨h_97, h9⟩⟩
          · subst h9
            have h_97 : zi_in f 0 2 := h_97
            refine zr_if_ne (a := 1) (tgt := 42) X dX9_order_37 (by decide) (by decide) (fun _ => ?_) (fun c9 => absurd c9 (by decide))
            refine lv_aload_n X.1 X.2.1 dX9_order_42 rfl (lv_at hl 1 rfl) ?_
            refine lv_iconst (v := 0) X.1 X.2.1 dX9_order_43 (by decide) ?_
            refine lv_iconst (v := 1) X.1 X.2.1 dX9_order_44 (by decide) ?_
            refine zr_callV (As := [.int 0, .int 1]) (rest := []) X hW hl.1 md_X9_hasRoom ms_X9_76 dX9_order_45 (zc_s100 hS) rfl rfl rfl rfl (Nat.le_of_ble_eq_true rfl) ⟨Nat.le_of_ble_eq_true rfl, Nat.le_of_ble_eq_true rfl⟩ ⟨Nat.le_of_ble_eq_true rfl, Nat.le_of_ble_eq_true rfl⟩ (c_X9_hasRoom_01 l Y N0 ad sh g u hS hN hI) (fun v9 ad9 sh9 g9 H locs hp hW => ?_)
            rcases hp with ⟨rfl, rfl, rfl, ⟨h_98, h9⟩ | ⟨h_98, h9⟩⟩
            · subst h9
              have h_98 : (u 0 2).toInt + 0 ≤ 200 ∧ (u 0 8).toInt + 1 ≤ 150 := h_98
              refine zr_if_ne (a := 1) (tgt := 54) X dX9_order_48 (by decide) (by decide) (fun _ => ?_) (fun c9 => absurd c9 (by decide))
              refine lv_aload X.1 X.2.1 dX9_order_54 (lv_at hl 0 rfl) ?_
              refine zr_get (r := 118) (v := .ref (ad 140)) X hW fs_X9_137_7 dX9_order_56 (zc_s118 hS) rfl rfl rfl ?_
              refine lv_iconst (v := 1) X.1 X.2.1 dX9_order_59 (by decide) ?_
              refine zr_iald (r := 140) (v := u 24 11) X hW dX9_order_60 (zc_s140 hS) rfl rfl (zi_vp (by decide)) ((show g 140 (1 : Int32).toNatClampNeg = g 140 1 from rfl).trans (hR.2.2.2.1 3 1 (by omega) (by omega) (show ¬ (u 23 11).toInt = -1 by omega))) ?_
              refine lv_istore (lv' := [(6, .int (u 24 11)), (5, .ref (ad 118)), (0, .ref (ad 100)), (1, .int 5), (2, .int o), (3, .int f), (4, .int x)]) X.1 X.2.1 dX9_order_61 hl (by decide) rfl (fun ls hl => ?_)
              have h8 : 0 ≤ (u 0 8).toInt ∧ (u 0 8).toInt < 150 := by omega
              have hsp : sp_order 5 o f x u = (u 0 8, zs_mk (zm_w u 25 5 (u 25 5 + 1)) (zs_v 4 (u 24 11) 5 (-1) (u 1 5) (u 25 5 + 1) 0 o f x)) := (by unfold sp_order; simp only [show zn (5 : Int32) = 5 from rfl, Nat.reduceMul, Nat.reduceAdd]; (first | refine (if_neg (fun h9 => h9 ⟨by decide, by omega⟩)).trans ?_ | refine (if_pos (fun h9 => by obtain ⟨-, h9⟩ := h9; omega)).trans ?_ | refine (if_pos (by omega)).trans ?_); (repeat (first | refine (if_pos (by omega)).trans ?_ | refine (if_neg (by omega)).trans ?_)); rfl)
              refine lv_aload_n X.1 X.2.1 dX9_order_63 rfl (lv_at hl 2 rfl) ?_
              refine zr_new (ss := [none, none, none, none, some none]) X hW cs_X1 ns_X9_140 dX9_order_64 ds_X1 (by intro r h; simp at h) (200 + 2 * zn (u 0 8)) (hR.2.2.2.2.2.2.1 (200 + 2 * zn (u 0 8)) (by omega)) (Nat.le_of_ble_eq_true rfl) (Nat.le_of_ble_eq_true rfl) (fun ad_99 H had_99 hW => ?_)
              obtain ⟨sh_100, hsh_100⟩ : ∃ z : Nat → Option zw_Sh, z = va_up sh (200 + 2 * zn (u 0 8)) (some (.inl (1, [none, none, none, none, some none]))) := ⟨_, rfl⟩
              obtain ⟨g_101, hg_101⟩ : ∃ z : zm_T, z = va_up g (200 + 2 * zn (u 0 8)) (fun _ => 0) := ⟨_, rfl⟩
              rw [← hsh_100, ← hg_101] at hW
              have hS : zc_S sh_100 := by rw [hsh_100]; exact zc_S200 (by omega) hS
              have hN : zc_N g_101 u := by rw [hg_101]; exact zc_Nv hN (by omega)
              refine lv_dup X.1 X.2.1 dX9_order_67 rfl ?_
              refine lv_iload X.1 X.2.1 dX9_order_68 (lv_at hl 0 rfl) ?_
              refine lv_iload_n X.1 X.2.1 dX9_order_70 rfl (lv_at hl 3 rfl) ?_
              refine lv_aload_n X.1 X.2.1 dX9_order_71 rfl (lv_at hl 2 rfl) ?_
              refine zr_get (r := 100) (v := .ref (ad_99 101)) X hW fs_X9_9_8 dX9_order_72 (zc_s100 hS) (had_99 100 (by omega)) rfl rfl ?_
              refine lv_iload_n X.1 X.2.1 dX9_order_75 rfl (lv_at hl 3 rfl) ?_
              refine zr_iald (r := 101) (v := u 1 5) X hW dX9_order_76 (zc_s101 hS) rfl rfl (zi_vp (by decide)) ((show g_101 101 (5 : Int32).toNatClampNeg = g_101 101 5 from rfl).trans ((show g_101 101 5 = g 101 5 from (by rw [hg_101, va_up_ne _ _ (by omega)])).trans (hN0 _ _ _ _ rfl))) ?_
              refine lv_aload X.1 X.2.1 dX9_order_77 (lv_at hl 1 rfl) ?_
              refine zr_callV (As := []) (rest := [.int (u 1 5), .int 5, .int (u 24 11), .ref (ad_99 (200 + 2 * zn (u 0 8))), .ref (ad_99 (200 + 2 * zn (u 0 8))), .ref (ad 100)]) X hW hl.1 md_X8_makeSerial ms_X9_142 dX9_order_79 (zc_s118 hS) rfl rfl rfl (by rw [(had_99 118 (by omega))] <;> rfl) (Nat.le_of_ble_eq_true rfl) ⟨Nat.le_of_ble_eq_true rfl, Nat.le_of_ble_eq_true rfl⟩ ⟨Nat.le_of_ble_eq_true rfl, Nat.le_of_ble_eq_true rfl⟩ (c_X8_makeSerial_3 l Y N0 ad_99 sh_100 g_101 u hS hN) (fun v9 ad9 sh9 g9 H locs hp hW => ?_)
              obtain ⟨rfl, rfl, _, rfl, rfl, rfl⟩ := hp
              obtain ⟨g_103, hg_103⟩ : ∃ z : zm_T, z = zm_w g_101 118 3 (u 25 5 + 1) := ⟨_, rfl⟩
              rw [← hg_103] at hW
              obtain ⟨u_104, hu_104⟩ : ∃ z : zm_T, z = zm_w u 25 5 (u 25 5 + 1) := ⟨_, rfl⟩
              have hN : zc_N g_103 u_104 := by rw [hg_103, hu_104]; exact zc_Nw hN rfl _
              refine zr_new (ss := [none, none, none]) X hW cs_X3 ns_X9_145 dX9_order_82 ds_X3 (by intro r h; simp at h) (201 + 2 * zn (u 0 8)) (show sh_100 (201 + 2 * zn (u 0 8)) = none from (by rw [hsh_100]; exact (va_up_ne _ _ (by omega)).trans (hR.2.2.2.2.2.2.1 (201 + 2 * zn (u 0 8)) (by omega)))) (Nat.le_of_ble_eq_true rfl) (Nat.le_of_ble_eq_true rfl) (fun ad_105 H had_105 hW => ?_)
              obtain ⟨sh_106, hsh_106⟩ : ∃ z : Nat → Option zw_Sh, z = va_up sh_100 (201 + 2 * zn (u 0 8)) (some (.inl (3, [none, none, none]))) := ⟨_, rfl⟩
              obtain ⟨g_107, hg_107⟩ : ∃ z : zm_T, z = va_up g_103 (201 + 2 * zn (u 0 8)) (fun _ => 0) := ⟨_, rfl⟩
              rw [← hsh_106, ← hg_107] at hW
              have hS : zc_S sh_106 := by rw [hsh_106]; exact zc_S200 (by omega) hS
              have hN : zc_N g_107 u_104 := by rw [hg_107]; exact zc_Nv hN (by omega)
              refine lv_dup X.1 X.2.1 dX9_order_85 rfl ?_
              refine lv_iload_n X.1 X.2.1 dX9_order_86 rfl (lv_at hl 4 rfl) ?_
              refine lv_iload_n X.1 X.2.1 dX9_order_87 rfl (lv_at hl 5 rfl) ?_
              refine lv_iload X.1 X.2.1 dX9_order_88 (lv_at hl 6 rfl) ?_
              refine zr_callI (As := [.int o, .int f, .int x]) (rest := [.ref (ad_105 (201 + 2 * zn (u 0 8))), .int (u 25 5 + 1), .int (u 1 5), .int 5, .int (u 24 11), .ref (ad_99 (200 + 2 * zn (u 0 8))), .ref (ad_99 (200 + 2 * zn (u 0 8))), .ref (ad 100)]) (b := ad_105 (201 + 2 * zn (u 0 8))) X hW hl.1 md_X3_init ms_X9_147 rfl dX9_order_90 rfl rfl (Nat.le_of_ble_eq_true rfl) ⟨Nat.le_of_ble_eq_true rfl, Nat.le_of_ble_eq_true rfl⟩ ⟨Nat.le_of_ble_eq_true rfl, Nat.le_of_ble_eq_true rfl⟩ (c_X3_init l Y N0 ad_105 sh_106 g_107 ((201 + 2 * zn (u 0 8))) (show sh_106 (201 + 2 * zn (u 0 8)) = some (.inl (3, [none, none, none])) from (by rw [hsh_106]; exact va_up_self _ _ _)) o f x) (fun v9 ad9 sh9 g9 H locs hp hW => ?_)
              obtain ⟨rfl, rfl, rfl, rfl⟩ := hp
              obtain ⟨g_111, hg_111⟩ : ∃ z : zm_T, z = zm_w g_107 (201 + 2 * zn (u 0 8)) 0 o := ⟨_, rfl⟩
              obtain ⟨g_112, hg_112⟩ : ∃ z : zm_T, z = zm_w g_111 (201 + 2 * zn (u 0 8)) 1 f := ⟨_, rfl⟩
              obtain ⟨g_113, hg_113⟩ : ∃ z : zm_T, z = zm_w g_112 (201 + 2 * zn (u 0 8)) 2 x := ⟨_, rfl⟩
              rw [← hg_111, ← hg_112, ← hg_113] at hW
              have hN : zc_N g_111 u_104 := by rw [hg_111]; exact zc_Nc hN (zc_lm200 (by omega)) _
              have hN : zc_N g_112 u_104 := by rw [hg_112]; exact zc_Nc hN (zc_lm200 (by omega)) _
              have hN : zc_N g_113 u_104 := by rw [hg_113]; exact zc_Nc hN (zc_lm200 (by omega)) _
              refine zr_callI (As := [.int (u 24 11), .int 5, .int (u 1 5), .int (u 25 5 + 1), .ref (ad_105 (201 + 2 * zn (u 0 8)))]) (rest := [.ref (ad_99 (200 + 2 * zn (u 0 8))), .ref (ad 100)]) (b := ad_105 (200 + 2 * zn (u 0 8))) X hW hl.1 md_X1_init ms_X9_148 rfl dX9_order_93 rfl (by rw [(had_105 ((200 + 2 * zn (u 0 8))) (by omega))] <;> rfl) (Nat.le_of_ble_eq_true rfl) ⟨Nat.le_of_ble_eq_true rfl, Nat.le_of_ble_eq_true rfl⟩ ⟨Nat.le_of_ble_eq_true rfl, Nat.le_of_ble_eq_true rfl⟩ (c_X1_init l Y N0 ad_105 sh_106 g_113 ((200 + 2 * zn (u 0 8))) ((201 + 2 * zn (u 0 8))) (show sh_106 (200 + 2 * zn (u 0 8)) = some (.inl (1, [none, none, none, none, some none])) from (by rw [hsh_106]; exact (va_up_ne _ _ (by omega)).trans (show sh_100 (200 + 2 * zn (u 0 8)) = some (.inl (1, [none, none, none, none, some none])) from (by rw [hsh_100]; exact va_up_self _ _ _)))) (by rw [(show sh_106 (201 + 2 * zn (u 0 8)) = some (.inl (3, [none, none, none])) from (by rw [hsh_106]; exact va_up_self _ _ _))]; simp) (u 24 11) 5 (u 1 5) (u 25 5 + 1)) (fun v9 ad9 sh9 g9 H locs hp hW => ?_)
              obtain ⟨rfl, rfl, rfl, rfl⟩ := hp
              obtain ⟨g_118, hg_118⟩ : ∃ z : zm_T, z = zm_w g_113 (200 + 2 * zn (u 0 8)) 0 (u 24 11) := ⟨_, rfl⟩
              obtain ⟨g_119, hg_119⟩ : ∃ z : zm_T, z = zm_w g_118 (200 + 2 * zn (u 0 8)) 1 5 := ⟨_, rfl⟩
              obtain ⟨g_120, hg_120⟩ : ∃ z : zm_T, z = zm_w g_119 (200 + 2 * zn (u 0 8)) 2 (u 1 5) := ⟨_, rfl⟩
              obtain ⟨g_121, hg_121⟩ : ∃ z : zm_T, z = zm_w g_120 (200 + 2 * zn (u 0 8)) 3 (u 25 5 + 1) := ⟨_, rfl⟩
              rw [← hg_118, ← hg_119, ← hg_120, ← hg_121] at hW
              have hN : zc_N g_118 u_104 := by rw [hg_118]; exact zc_Nc hN (zc_lm200 (by omega)) _
              have hN : zc_N g_119 u_104 := by rw [hg_119]; exact zc_Nc hN (zc_lm200 (by omega)) _
              have hN : zc_N g_120 u_104 := by rw [hg_120]; exact zc_Nc hN (zc_lm200 (by omega)) _
              have hN : zc_N g_121 u_104 := by rw [hg_121]; exact zc_Nc hN (zc_lm200 (by omega)) _
              obtain ⟨sh_122, hsh_122⟩ : ∃ z : Nat → Option zw_Sh, z = va_up sh_106 (200 + 2 * zn (u 0 8)) (some (.inl (1, [none, none, none, none, some (some (201 + 2 * zn (u 0 8)))]))) := ⟨_, rfl⟩
              rw [← hsh_122] at hW
              have hS : zc_S sh_122 := by rw [hsh_122]; exact zc_S200 (by omega) hS
              refine zr_callV (As := [.ref (ad_105 (200 + 2 * zn (u 0 8)))]) (rest := []) X hW hl.1 md_X9_keep ms_X9_130 dX9_order_96 (zc_s100 hS) rfl rfl rfl (by rw [((had_105 100 (by omega)).trans (had_99 100 (by omega))), (had_105 ((200 + 2 * zn (u 0 8))) (by omega))] <;> rfl) (Nat.le_of_ble_eq_true rfl) ⟨Nat.le_of_ble_eq_true rfl, Nat.le_of_ble_eq_true rfl⟩ ⟨Nat.le_of_ble_eq_true rfl, Nat.le_of_ble_eq_true rfl⟩ (c_X9_keep_1 l Y N0 ad_105 sh_122 g_121 hS (u 0 8) ((show g_121 100 8 = g_120 100 8 from (by rw [hg_121]; exact zm_wn _ _ (Or.inl (by omega)))).trans ((show g_120 100 8 = g_119 100 8 from (by rw [hg_120]; exact zm_wn _ _ (Or.inl (by omega)))).trans ((show g_119 100 8 = g_118 100 8 from (by rw [hg_119]; exact zm_wn _ _ (Or.inl (by omega)))).trans ((show g_118 100 8 = g_113 100 8 from (by rw [hg_118]; exact zm_wn _ _ (Or.inl (by omega)))).trans ((show g_113 100 8 = g_112 100 8 from (by rw [hg_113]; exact zm_wn _ _ (Or.inl (by omega)))).trans ((show g_112 100 8 = g_111 100 8 from (by rw [hg_112]; exact zm_wn _ _ (Or.inl (by omega)))).trans ((show g_111 100 8 = g_107 100 8 from (by rw [hg_111]; exact zm_wn _ _ (Or.inl (by omega)))).trans ((show g_107 100 8 = g_103 100 8 from (by rw [hg_107, va_up_ne _ _ (by omega)])).trans ((show g_103 100 8 = g_101 100 8 from (by rw [hg_103]; rfl)).trans ((show g_101 100 8 = g 100 8 from (by rw [hg_101, va_up_ne _ _ (by omega)])).trans (hN0 _ _ _ _ rfl))))))))))) h8 (show sh_122 107 = some (.inr (3, 150, some (zc_sf (zn (u 0 8))))) from (by rw [hsh_122]; exact (va_up_ne _ _ (by omega)).trans (show sh_106 107 = some (.inr (3, 150, some (zc_sf (zn (u 0 8))))) from (by rw [hsh_106]; exact (va_up_ne _ _ (by omega)).trans (show sh_100 107 = some (.inr (3, 150, some (zc_sf (zn (u 0 8))))) from (by rw [hsh_100]; exact (va_up_ne _ _ (by omega)).trans hR.2.2.2.2.1)))))) (show sh_122 (200 + 2 * zn (u 0 8)) = some (.inl (1, [none, none, none, none, some (some (201 + 2 * zn (u 0 8)))])) from (by rw [hsh_122]; exact va_up_self _ _ _))) (fun v9 ad9 sh9 g9 H locs hp hW => ?_)
              obtain ⟨rfl, rfl, rfl, rfl⟩ := hp
              obtain ⟨sh_123, hsh_123⟩ : ∃ z : Nat → Option zw_Sh, z = va_up sh_122 107 (some (.inr (3, 150, some (zc_sf (zn (u 0 8) + 1))))) := ⟨_, rfl⟩
              obtain ⟨g_124, hg_124⟩ : ∃ z : zm_T, z = zm_w g_121 100 8 (u 0 8 + 1) := ⟨_, rfl⟩
              rw [← hsh_123, ← hg_124] at hW
              have hN9 : zc_N g_124 (zs_mk u_104 (zs_v 4 (u 24 11) 5 (-1) (u 1 5) (u 25 5 + 1) 0 o f x)) := by
                have e : u_104 0 8 = u 0 8 := by rw [hu_104]; rfl
                rw [hg_124, ← e]; exact zc_Nmk hN _
              have e8 : zn (u_104 0 8) = zn (u 0 8) := by rw [hu_104]; rfl
              have hu9 : ∀ r i : Nat, (r = 20 ∨ r = 22 ∨ r = 23 ∨ r = 24 ∨ r = 29 ∨ (r = 0 ∧ i = 28) ∨ (9 ≤ r ∧ r ≤ 18 ∧ i ≠ zn (u 0 8))) → zs_mk u_104 (zs_v 4 (u 24 11) 5 (-1) (u 1 5) (u 25 5 + 1) 0 o f x) r i = u r i := fun r i h => by
                rw [zs_mku u_104 _ r i (by rw [e8]; exact h)]
                rw [hu_104, zm_wn _ _ (by omega)]
              have hvv : ∀ r : Nat, 9 ≤ r ∧ r ≤ 18 → zs_mk u_104 (zs_v 4 (u 24 11) 5 (-1) (u 1 5) (u 25 5 + 1) 0 o f x) r (zn (u 0 8)) = (zs_v 4 (u 24 11) 5 (-1) (u 1 5) (u 25 5 + 1) 0 o f x) r := fun r h => by rw [← e8]; exact zs_mkn u_104 _ h
              have hsl9 : zc_sl sh_123 g_124 (zs_mk u_104 (zs_v 4 (u 24 11) 5 (-1) (u 1 5) (u 25 5 + 1) 0 o f x)) (zn (u 0 8)) := by
                unfold zc_sl
                rw [hvv 9 (by decide), hvv 10 (by decide), hvv 11 (by decide), hvv 12 (by decide), hvv 13 (by decide), hvv 14 (by decide), hvv 15 (by decide), hvv 16 (by decide), hvv 17 (by decide), hvv 18 (by decide)]
                exact ⟨fun h => absurd (show (4 : Int32).toInt = 1 from h) (by decide), fun h => absurd (show (4 : Int32).toInt = 2 from h) (by decide), fun h => absurd (show (4 : Int32).toInt = 3 from h) (by decide), fun _ => ⟨(show sh_123 (200 + 2 * zn (u 0 8)) = some (.inl (1, [none, none, none, none, some (some (201 + 2 * zn (u 0 8)))])) from (by rw [hsh_123]; exact (va_up_ne _ _ (by omega)).trans (show sh_122 (200 + 2 * zn (u 0 8)) = some (.inl (1, [none, none, none, none, some (some (201 + 2 * zn (u 0 8)))])) from (by rw [hsh_122]; exact va_up_self _ _ _)))), (show sh_123 (201 + 2 * zn (u 0 8)) = some (.inl (3, [none, none, none])) from (by rw [hsh_123]; exact (va_up_ne _ _ (by omega)).trans (show sh_122 (201 + 2 * zn (u 0 8)) = some (.inl (3, [none, none, none])) from (by rw [hsh_122]; exact (va_up_ne _ _ (by omega)).trans (show sh_106 (201 + 2 * zn (u 0 8)) = some (.inl (3, [none, none, none])) from (by rw [hsh_106]; exact va_up_self _ _ _)))))), ((show g_124 (200 + 2 * zn (u 0 8)) 0 = g_121 (200 + 2 * zn (u 0 8)) 0 from (by rw [hg_124, zm_wn _ _ (Or.inl (by omega))])).trans ((show g_121 (200 + 2 * zn (u 0 8)) 0 = g_120 (200 + 2 * zn (u 0 8)) 0 from (by rw [hg_121]; exact zm_wn _ _ (Or.inr (by decide)))).trans ((show g_120 (200 + 2 * zn (u 0 8)) 0 = g_119 (200 + 2 * zn (u 0 8)) 0 from (by rw [hg_120]; exact zm_wn _ _ (Or.inr (by decide)))).trans ((show g_119 (200 + 2 * zn (u 0 8)) 0 = g_118 (200 + 2 * zn (u 0 8)) 0 from (by rw [hg_119]; exact zm_wn _ _ (Or.inr (by decide)))).trans (show g_118 (200 + 2 * zn (u 0 8)) 0 = u 24 11 from (by rw [hg_118]; exact zm_ws _ _ _ _)))))), ((show g_124 (200 + 2 * zn (u 0 8)) 1 = g_121 (200 + 2 * zn (u 0 8)) 1 from (by rw [hg_124, zm_wn _ _ (Or.inl (by omega))])).trans ((show g_121 (200 + 2 * zn (u 0 8)) 1 = g_120 (200 + 2 * zn (u 0 8)) 1 from (by rw [hg_121]; exact zm_wn _ _ (Or.inr (by decide)))).trans ((show g_120 (200 + 2 * zn (u 0 8)) 1 = g_119 (200 + 2 * zn (u 0 8)) 1 from (by rw [hg_120]; exact zm_wn _ _ (Or.inr (by decide)))).trans (show g_119 (200 + 2 * zn (u 0 8)) 1 = 5 from (by rw [hg_119]; exact zm_ws _ _ _ _))))), ((show g_124 (200 + 2 * zn (u 0 8)) 2 = g_121 (200 + 2 * zn (u 0 8)) 2 from (by rw [hg_124, zm_wn _ _ (Or.inl (by omega))])).trans ((show g_121 (200 + 2 * zn (u 0 8)) 2 = g_120 (200 + 2 * zn (u 0 8)) 2 from (by rw [hg_121]; exact zm_wn _ _ (Or.inr (by decide)))).trans (show g_120 (200 + 2 * zn (u 0 8)) 2 = u 1 5 from (by rw [hg_120]; exact zm_ws _ _ _ _)))), ((show g_124 (200 + 2 * zn (u 0 8)) 3 = g_121 (200 + 2 * zn (u 0 8)) 3 from (by rw [hg_124, zm_wn _ _ (Or.inl (by omega))])).trans (show g_121 (200 + 2 * zn (u 0 8)) 3 = u 25 5 + 1 from (by rw [hg_121]; exact zm_ws _ _ _ _))), ((show g_124 (201 + 2 * zn (u 0 8)) 0 = g_121 (201 + 2 * zn (u 0 8)) 0 from (by rw [hg_124, zm_wn _ _ (Or.inl (by omega))])).trans ((show g_121 (201 + 2 * zn (u 0 8)) 0 = g_120 (201 + 2 * zn (u 0 8)) 0 from (by rw [hg_121]; exact zm_wn _ _ (Or.inl (by omega)))).trans ((show g_120 (201 + 2 * zn (u 0 8)) 0 = g_119 (201 + 2 * zn (u 0 8)) 0 from (by rw [hg_120]; exact zm_wn _ _ (Or.inl (by omega)))).trans ((show g_119 (201 + 2 * zn (u 0 8)) 0 = g_118 (201 + 2 * zn (u 0 8)) 0 from (by rw [hg_119]; exact zm_wn _ _ (Or.inl (by omega)))).trans ((show g_118 (201 + 2 * zn (u 0 8)) 0 = g_113 (201 + 2 * zn (u 0 8)) 0 from (by rw [hg_118]; exact zm_wn _ _ (Or.inl (by omega)))).trans ((show g_113 (201 + 2 * zn (u 0 8)) 0 = g_112 (201 + 2 * zn (u 0 8)) 0 from (by rw [hg_113]; exact zm_wn _ _ (Or.inr (by decide)))).trans ((show g_112 (201 + 2 * zn (u 0 8)) 0 = g_111 (201 + 2 * zn (u 0 8)) 0 from (by rw [hg_112]; exact zm_wn _ _ (Or.inr (by decide)))).trans (show g_111 (201 + 2 * zn (u 0 8)) 0 = o from (by rw [hg_111]; exact zm_ws _ _ _ _))))))))), ((show g_124 (201 + 2 * zn (u 0 8)) 1 = g_121 (201 + 2 * zn (u 0 8)) 1 from (by rw [hg_124, zm_wn _ _ (Or.inl (by omega))])).trans ((show g_121 (201 + 2 * zn (u 0 8)) 1 = g_120 (201 + 2 * zn (u 0 8)) 1 from (by rw [hg_121]; exact zm_wn _ _ (Or.inl (by omega)))).trans ((show g_120 (201 + 2 * zn (u 0 8)) 1 = g_119 (201 + 2 * zn (u 0 8)) 1 from (by rw [hg_120]; exact zm_wn _ _ (Or.inl (by omega)))).trans ((show g_119 (201 + 2 * zn (u 0 8)) 1 = g_118 (201 + 2 * zn (u 0 8)) 1 from (by rw [hg_119]; exact zm_wn _ _ (Or.inl (by omega)))).trans ((show g_118 (201 + 2 * zn (u 0 8)) 1 = g_113 (201 + 2 * zn (u 0 8)) 1 from (by rw [hg_118]; exact zm_wn _ _ (Or.inl (by omega)))).trans ((show g_113 (201 + 2 * zn (u 0 8)) 1 = g_112 (201 + 2 * zn (u 0 8)) 1 from (by rw [hg_113]; exact zm_wn _ _ (Or.inr (by decide)))).trans (show g_112 (201 + 2 * zn (u 0 8)) 1 = f from (by rw [hg_112]; exact zm_ws _ _ _ _)))))))), ((show g_124 (201 + 2 * zn (u 0 8)) 2 = g_121 (201 + 2 * zn (u 0 8)) 2 from (by rw [hg_124, zm_wn _ _ (Or.inl (by omega))])).trans ((show g_121 (201 + 2 * zn (u 0 8)) 2 = g_120 (201 + 2 * zn (u 0 8)) 2 from (by rw [hg_121]; exact zm_wn _ _ (Or.inl (by omega)))).trans ((show g_120 (201 + 2 * zn (u 0 8)) 2 = g_119 (201 + 2 * zn (u 0 8)) 2 from (by rw [hg_120]; exact zm_wn _ _ (Or.inl (by omega)))).trans ((show g_119 (201 + 2 * zn (u 0 8)) 2 = g_118 (201 + 2 * zn (u 0 8)) 2 from (by rw [hg_119]; exact zm_wn _ _ (Or.inl (by omega)))).trans ((show g_118 (201 + 2 * zn (u 0 8)) 2 = g_113 (201 + 2 * zn (u 0 8)) 2 from (by rw [hg_118]; exact zm_wn _ _ (Or.inl (by omega)))).trans (show g_113 (201 + 2 * zn (u 0 8)) 2 = x from (by rw [hg_113]; exact zm_ws _ _ _ _)))))))⟩⟩
              have hz9 : zn (zs_mk u_104 (zs_v 4 (u 24 11) 5 (-1) (u 1 5) (u 25 5 + 1) 0 o f x) 0 8) = zn (u 0 8) + 1 := by have q9 := zs_mkz (u := u_104) (by rw [hu_104]; exact h8) (zs_v 4 (u 24 11) 5 (-1) (u 1 5) (u 25 5 + 1) 0 o f x); rw [q9, e8]
              have hR9 : zc_R sh_123 g_124 (zs_mk u_104 (zs_v 4 (u 24 11) 5 (-1) (u 1 5) (u 25 5 + 1) 0 o f x)) := zc_add (n := (zn (u 0 8))) hR rfl hz9 hN9 hu9 (show sh_123 107 = some (.inr (3, 150, some (zc_sf (zn (u 0 8) + 1)))) from (by rw [hsh_123]; exact va_up_self _ _ _)) (fun r h1 h2 h3 => by rw [hsh_123, va_up_ne _ _ (by omega), hsh_122, va_up_ne _ _ (by omega), hsh_106, va_up_ne _ _ (by omega), hsh_100, va_up_ne _ _ (by omega)]) (fun r h1 h2 h3 => by rw [hg_124, zm_wr (by omega), hg_121, zm_wr (by omega), hg_120, zm_wr (by omega), hg_119, zm_wr (by omega), hg_118, zm_wr (by omega), hg_113, zm_wr (by omega), hg_112, zm_wr (by omega), hg_111, zm_wr (by omega), hg_107, va_up_ne _ _ (by omega), hg_103, zm_wr (by omega), hg_101, va_up_ne _ _ (by omega)]) (fun j hj => by rw [hg_124, zm_wn _ _ (by omega), hg_121, zm_wn _ _ (by omega), hg_120, zm_wn _ _ (by omega), hg_119, zm_wn _ _ (by omega), hg_118, zm_wn _ _ (by omega), hg_113, zm_wn _ _ (by omega), hg_112, zm_wn _ _ (by omega), hg_111, zm_wn _ _ (by omega), hg_107, va_up_ne _ _ (by omega), hg_103, zm_wn _ _ (by omega), hg_101, va_up_ne _ _ (by omega)]) hsl9
              have hf9 : zc_fr ad sh g ad_105 sh_123 g_124 := ⟨fun r hr => (had_105 r (by omega)).trans (had_99 r (by omega)), fun r hr => ⟨by rw [hsh_123, va_up_ne _ _ (by omega), hsh_122, va_up_ne _ _ (by omega), hsh_106, va_up_ne _ _ (by omega), hsh_100, va_up_ne _ _ (by omega)], by rw [hg_124, zm_wr (by omega), hg_121, zm_wr (by omega), hg_120, zm_wr (by omega), hg_119, zm_wr (by omega), hg_118, zm_wr (by omega), hg_113, zm_wr (by omega), hg_112, zm_wr (by omega), hg_111, zm_wr (by omega), hg_107, va_up_ne _ _ (by omega), hg_103, zm_wr (by omega), hg_101, va_up_ne _ _ (by omega)]⟩⟩
              rw [hu_104] at hR9
              exact zr_iret X hW dX9_order_99 (Nat.le_of_ble_eq_true rfl) (Nat.le_of_ble_eq_true rfl) ⟨by rw [hsp], by rw [hsp]; exact hR9, hf9⟩
            · subst h9
              have h_98 : ¬ ((u 0 2).toInt + 0 ≤ 200 ∧ (u 0 8).toInt + 1 ≤ 150) := h_98
              refine zr_if_ne (a := 0) (tgt := 54) X dX9_order_48 (by decide) (by decide) (fun c9 => absurd c9 (by decide)) (fun _ => ?_)
              refine lv_bipush (v := (-7)) X.1 X.2.1 dX9_order_51 (by decide) ?_
              have e9 : sp_order 5 o f x u = ((-7), u) := (by unfold sp_order; simp only [show zn (5 : Int32) = 5 from rfl, Nat.reduceMul, Nat.reduceAdd]; (first | refine (if_neg (fun h9 => h9 ⟨by decide, by omega⟩)).trans ?_ | refine (if_pos (fun h9 => by obtain ⟨-, h9⟩ := h9; omega)).trans ?_ | refine (if_pos (by omega)).trans ?_); (repeat (first | refine (if_pos (by omega)).trans ?_ | refine (if_neg (by omega)).trans ?_)); rfl)
              exact zr_iret X hW dX9_order_53 (Nat.le_of_ble_eq_true rfl) (Nat.le_of_ble_eq_true rfl) ⟨by rw [e9], by rw [e9]; exact hR, zc_fr0⟩
          · subst h9
            have h_97 : ¬ (zi_in f 0 2) := h_97
            refine zr_if_ne (a := 0) (tgt := 42) X dX9_order_37 (by decide) (by decide) (fun c9 => absurd c9 (by decide)) (fun _ => ?_)
            refine lv_iconst (v := (-1)) X.1 X.2.1 dX9_order_40 (by decide) ?_
            have e9 : sp_order 5 o f x u = ((-1), u) := (by unfold sp_order; simp only [show zn (5 : Int32) = 5 from rfl, Nat.reduceMul, Nat.reduceAdd]; (first | refine (if_neg (fun h9 => h9 ⟨by decide, by omega⟩)).trans ?_ | refine (if_pos (fun h9 => by obtain ⟨-, h9⟩ := h9; omega)).trans ?_ | refine (if_pos (by omega)).trans ?_); (repeat (first | refine (if_pos (by omega)).trans ?_ | refine (if_neg (by omega)).trans ?_)); rfl)
            exact zr_iret X hW dX9_order_41 (Nat.le_of_ble_eq_true rfl) (Nat.le_of_ble_eq_true rfl) ⟨by rw [e9], by rw [e9]; exact hR, zc_fr0⟩
    · subst h9
      have h_94 : ¬ (0 ≤ (u 23 11).toInt) := h_94
      refine zr_if_ne (a := 0) (tgt := 23) X dX9_order_18 (by decide) (by decide) (fun c9 => absurd c9 (by decide)) (fun _ => ?_)
      refine lv_iconst (v := (-1)) X.1 X.2.1 dX9_order_21 (by decide) ?_
      have e9 : sp_order 5 o f x u = ((-1), u) := (by unfold sp_order; simp only [show zn (5 : Int32) = 5 from rfl, Nat.reduceMul, Nat.reduceAdd]; (first | refine (if_neg (fun h9 => h9 ⟨by decide, by omega⟩)).trans ?_ | refine (if_pos (fun h9 => by obtain ⟨-, h9⟩ := h9; omega)).trans ?_ | refine (if_pos (by omega)).trans ?_); (repeat (first | refine (if_pos (by omega)).trans ?_ | refine (if_neg (by omega)).trans ?_)); rfl)
      exact zr_iret X hW dX9_order_22 (Nat.le_of_ble_eq_true rfl) (Nat.le_of_ble_eq_true rfl) ⟨by rw [e9], by rw [e9]; exact hR, zc_fr0⟩
  · subst h8
    have h_125 : ¬ zs_us a := h9
    refine lv_astoreN (lv' := [(5, .null), (0, .ref (ad 100)), (1, .int a), (2, .int o), (3, .int f), (4, .int x)]) X.1 X.2.1 dX9_order_5 hl (by decide) rfl (fun ls hl => ?_)
    refine lv_aloadN X.1 X.2.1 dX9_order_7 (lv_at hl 0 rfl) ?_
    refine lv_ifnullN (tgt := 21) X.1 X.2.1 dX9_order_9 (by decide) ?_
    refine lv_iconst (v := (-1)) X.1 X.2.1 dX9_order_21 (by decide) ?_
    have e9 : sp_order a o f x u = ((-1), u) := (by unfold sp_order; (first | refine (if_neg (fun h9 => h9 ⟨by decide, by omega⟩)).trans ?_ | refine (if_pos (fun h9 => by obtain ⟨-, h9⟩ := h9; omega)).trans ?_ | refine (if_pos (by omega)).trans ?_); (repeat (first | refine (if_pos (by omega)).trans ?_ | refine (if_neg (by omega)).trans ?_)); rfl)
    exact zr_iret X hW dX9_order_22 (Nat.le_of_ble_eq_true rfl) (Nat.le_of_ble_eq_true rfl) ⟨by rw [e9], by rw [e9]; exact hR, zc_fr0⟩
