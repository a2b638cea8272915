theorem zc_lmr {r i m k : Nat} (h : zc_lm r i = some (m, k)) : (m = 0 ∧ (k = 0 ∨ k = 8 ∨ k = 2 ∨ k = 19 ∨ k = 28 ∨ k = 27)) ∨ m = 1 ∨ m = 3 ∨ m = 4 ∨ m = 5 ∨ m = 6 ∨ m = 7 ∨ m = 26 ∨ m = 20 ∨ m = 21 ∨ m = 25 ∨ m = 23 := by
  unfold zc_lm at h
  by_cases c0 : r = 100 ∧ i = 0
  · rw [if_pos c0] at h; cases h; omega
  rw [if_neg c0] at h
  by_cases c1 : r = 100 ∧ i = 8
  · rw [if_pos c1] at h; cases h; omega
  rw [if_neg c1] at h
  by_cases c2 : r = 100 ∧ i = 10
  · rw [if_pos c2] at h; cases h; omega
  rw [if_neg c2] at h
  by_cases c3 : r = 100 ∧ i = 11
  · rw [if_pos c3] at h; cases h; omega
  rw [if_neg c3] at h
  by_cases c4 : r = 101 ∧ i < 6
  · rw [if_pos c4] at h; cases h; omega
  rw [if_neg c4] at h
  by_cases c5 : r = 102 ∧ i < 6
  · rw [if_pos c5] at h; cases h; omega
  rw [if_neg c5] at h
  by_cases c6 : r = 108 ∧ i < 200
  · rw [if_pos c6] at h; cases h; omega
  rw [if_neg c6] at h
  by_cases c7 : r = 109 ∧ i < 6
  · rw [if_pos c7] at h; cases h; omega
  rw [if_neg c7] at h
  by_cases c8 : r = 110 ∧ i < 6
  · rw [if_pos c8] at h; cases h; omega
  rw [if_neg c8] at h
  by_cases c9 : r = 112 ∧ i < 6
  · rw [if_pos c9] at h; cases h; omega
  rw [if_neg c9] at h
  by_cases c10 : r = 113 ∧ i < 6
  · rw [if_pos c10] at h; cases h; omega
  rw [if_neg c10] at h
  by_cases c11 : 121 ≤ r ∧ r < 127 ∧ i < 3
  · rw [if_pos c11] at h; cases h; omega
  rw [if_neg c11] at h
  by_cases c12 : 127 ≤ r ∧ r < 133 ∧ i < 3
  · rw [if_pos c12] at h; cases h; omega
  rw [if_neg c12] at h
  by_cases c13 : r = 106 ∧ i = 2
  · rw [if_pos c13] at h; cases h; omega
  rw [if_neg c13] at h
  by_cases c14 : r = 106 ∧ i = 3
  · rw [if_pos c14] at h; cases h; omega
  rw [if_neg c14] at h
  by_cases c15 : r = 119 ∧ i < 3
  · rw [if_pos c15] at h; cases h; omega
  rw [if_neg c15] at h
  by_cases c16 : 115 ≤ r ∧ r < 119 ∧ i = 0
  · rw [if_pos c16] at h; cases h; omega
  rw [if_neg c16] at h
  by_cases c17 : 115 ≤ r ∧ r < 119 ∧ i = 1
  · rw [if_pos c17] at h; cases h; omega
  rw [if_neg c17] at h
  by_cases c18 : 115 ≤ r ∧ r < 119 ∧ i = 3
  · rw [if_pos c18] at h; cases h; omega
  rw [if_neg c18] at h
  by_cases c19 : (r = 133 ∨ r = 135 ∨ r = 137 ∨ r = 139) ∧ i < 2
  · rw [if_pos c19] at h; cases h; omega
  rw [if_neg c19] at h
  cases h
theorem zs_encomm (u : zm_T) (a : Nat) (x y : Int32) : zm_w (zs_clr (zm_w (zm_w (zm_w u 0 2 y) 3 a x) 6 a 20) a) 5 a x = zm_w (zm_w (zm_w (zs_clr (zm_w u 6 a 20) a) 5 a x) 3 a x) 0 2 y := by
  funext r i
  unfold zm_w zs_clr
  by_cases h0 : r = 0
  · subst h0; simp [va_up]
  · by_cases h3 : r = 3
    · subst h3; simp [va_up]
    · by_cases h5 : r = 5
      · subst h5; simp [va_up]
      · by_cases h6 : r = 6
        · subst h6; simp [va_up]
        · simp [va_up, h0, h3, h5, h6]
theorem zs_encomm2 (u : zm_T) (a : Nat) (x y : Int32) : zm_w (zm_w (zm_w u 0 2 y) 3 a x) 5 a x = zm_w (zm_w (zm_w u 5 a x) 3 a x) 0 2 y := by
  funext r i
  unfold zm_w
  by_cases h0 : r = 0
  · subst h0; simp [va_up]
  · by_cases h3 : r = 3
    · subst h3; simp [va_up]
    · by_cases h5 : r = 5
      · subst h5; simp [va_up]
      · simp [va_up, h0, h3, h5]
theorem zs_cntcp (u : zm_T) (f t : Nat) : ∀ k : Nat, k ≤ 6 → zs_cnt (zs_cp u f t) t k = zs_cnt u f k
  | 0, _ => rfl
  | k + 1, h => by
    have ih := zs_cntcp u f t k (by omega)
    have e : zs_cp u f t 5 (t + k) = u 5 (f + k) := by
      unfold zs_cp
      rw [if_pos (by omega)]
      congr 1; omega
    unfold zs_cnt
    rw [e, ih]
theorem zc_bfR {sh : Nat → Option zw_Sh} {g u g' u' : zm_T} (hR : zc_R sh g u) (hN : zc_N g' u') (hu : ∀ r i : Nat, ((9 ≤ r ∧ r ≤ 18) ∨ r = 20 ∨ r = 22 ∨ r = 23 ∨ r = 24 ∨ r = 29 ∨ (r = 0 ∧ (i = 8 ∨ i = 28))) → u' r i = u r i) (hb : zc_bf g g') : zc_R sh g' u' :=
  zc_Rof hR hN hu (fun r h => hb r (by omega)) (fun j hj => by rw [hb _ (by omega)])
theorem zs_cpu (u : zm_T) (f t : Nat) : ∀ r i : Nat, ((9 ≤ r ∧ r ≤ 18) ∨ r = 20 ∨ r = 22 ∨ r = 23 ∨ r = 24 ∨ r = 29 ∨ (r = 0 ∧ (i = 8 ∨ i = 28))) → zs_cp u f t r i = u r i := by
  intro r i h
  unfold zs_cp
  rw [if_neg (by omega), if_neg (by omega), if_neg (by omega)]

set_option maxHeartbeats 4000000 in
set_option maxRecDepth 100000 in
theorem c_X9_enrol (l : Launch) (Y : zw_Y) (N0 : Nat) (ad : Nat → Nat) (sh : Nat → Option zw_Sh) (g u : zm_T) (hR : zc_R sh g u) (hI : zm_I u) (a : Int32) : zw_Met l Y N0 yX9_enrol cX9_enrol 3 (some .int) 3 64 0 0 ad sh g [.ref (ad 100), .int a] (zc_Po ad sh g (sp_enrol a u)) := by
  refine zw_meth (by decide) (Nat.le_of_ble_eq_true rfl) ?_
  intro p e s m below meth c ls X hnm hl hW
  have hl : lv_has ls 3 [(0, .ref (ad 100)), (1, .int a)] := hl
  have hS := hR.1
  have hN0 := hR.2.1
  have hN := hR.2.1
  have hB : ∀ i : Nat, i < 12 → -1 ≤ (u 5 i).toInt := fun i hi => (zI_bk hI i hi).1
  have hT : ∀ i : Nat, i < 12 → -1 ≤ (u 23 i).toInt := fun i hi => (zI_tk hI i hi).1
  have hse := zI_se hI
  have hke := zI_ke hI
  refine lv_iload_n X.1 X.2.1 dX9_enrol_0 rfl (lv_at hl 1 rfl) ?_
  refine zr_callS (As := [.int a]) (rest := []) X hW hl.1 md_X9_isPrincipal ms_X9_72 dX9_enrol_1 rfl rfl (Nat.le_of_ble_eq_true rfl) ⟨Nat.le_of_ble_eq_true rfl, Nat.le_of_ble_eq_true rfl⟩ ⟨Nat.le_of_ble_eq_true rfl, Nat.le_of_ble_eq_true rfl⟩ (c_X9_isPrincipal l Y N0 ad sh g a) (fun v9 ad9 sh9 g9 H locs hp hW => ?_)
  rcases hp with ⟨rfl, rfl, rfl, ⟨h_1, h9⟩ | ⟨h_1, h9⟩⟩
  · subst h9
    have h_1 : zi_in a 0 5 := h_1
    refine zr_if_ne (a := 1) (tgt := 9) X dX9_enrol_4 (by decide) (by decide) (fun _ => ?_) (fun c9 => absurd c9 (by decide))
    refine lv_aload_n X.1 X.2.1 dX9_enrol_9 rfl (lv_at hl 0 rfl) ?_
    refine lv_iconst (v := 1) X.1 X.2.1 dX9_enrol_10 (by decide) ?_
    refine lv_iconst (v := 0) X.1 X.2.1 dX9_enrol_11 (by decide) ?_
    refine zr_callV (As := [.int 1, .int 0]) (rest := []) X hW hl.1 md_X9_hasRoom ms_X9_76 dX9_enrol_12 (zc_s100 hS) rfl rfl rfl rfl (Nat.le_of_ble_eq_true rfl) ⟨Nat.le_of_ble_eq_true rfl, Nat.le_of_ble_eq_true rfl⟩ ⟨Nat.le_of_ble_eq_true rfl, Nat.le_of_ble_eq_true rfl⟩ (c_X9_hasRoom_10 l Y N0 ad sh g u hS hN hI) (fun v9 ad9 sh9 g9 H locs hp hW => ?_)
    rcases hp with ⟨rfl, rfl, rfl, ⟨h_2, h9⟩ | ⟨h_2, h9⟩⟩
    · subst h9
      have h_2 : (u 0 2).toInt + 1 ≤ 200 ∧ (u 0 8).toInt + 0 ≤ 150 := h_2
      refine zr_if_ne (a := 1) (tgt := 21) X dX9_enrol_15 (by decide) (by decide) (fun _ => ?_) (fun c9 => absurd c9 (by decide))
      refine lv_aload_n X.1 X.2.1 dX9_enrol_21 rfl (lv_at hl 0 rfl) ?_
      refine zr_callV (As := []) (rest := []) X hW hl.1 md_X9_makeKey ms_X9_80 dX9_enrol_22 (zc_s100 hS) rfl rfl rfl rfl (Nat.le_of_ble_eq_true rfl) ⟨Nat.le_of_ble_eq_true rfl, Nat.le_of_ble_eq_true rfl⟩ ⟨Nat.le_of_ble_eq_true rfl, Nat.le_of_ble_eq_true rfl⟩ (c_X9_makeKey l Y N0 ad sh g u hS hN) (fun v9 ad9 sh9 g9 H locs hp hW => ?_)
      obtain ⟨rfl, rfl, _, rfl, rfl, rfl⟩ := hp
      obtain ⟨g_4, hg_4⟩ : ∃ z : zm_T, z = zm_w g 100 10 (u 0 2 + 1) := ⟨_, rfl⟩
      rw [← hg_4] at hW
      obtain ⟨u_5, hu_5⟩ : ∃ z : zm_T, z = zm_w u 0 2 (u 0 2 + 1) := ⟨_, rfl⟩
      have hN : zc_N g_4 u_5 := by rw [hg_4, hu_5]; exact zc_Nw hN rfl _
      refine lv_istore_n (lv' := [(2, .int (u 0 2)), (0, .ref (ad 100)), (1, .int a)]) X.1 X.2.1 dX9_enrol_25 rfl hl (by decide) rfl (fun ls hl => ?_)
      refine lv_aload_n X.1 X.2.1 dX9_enrol_26 rfl (lv_at hl 1 rfl) ?_
      refine zr_get (r := 100) (v := .ref (ad 102)) X hW fs_X9_13_8 dX9_enrol_27 (zc_s100 hS) rfl rfl rfl ?_
      refine lv_iload_n X.1 X.2.1 dX9_enrol_30 rfl (lv_at hl 2 rfl) ?_
      refine lv_iload_n X.1 X.2.1 dX9_enrol_31 rfl (lv_at hl 0 rfl) ?_
      refine zr_iast (r := 102) X hW dX9_enrol_32 (zc_s102 hS) rfl rfl (zi_vp (by omega)) (fun H locs hW => ?_)
      obtain ⟨g_6, hg_6⟩ : ∃ z : zm_T, z = zm_w g_4 102 (zn a) (u 0 2) := ⟨_, rfl⟩
      have hW : zw_St Y N0 ad sh g_6 s H locs := by rw [hg_6]; exact hW
      obtain ⟨u_7, hu_7⟩ : ∃ z : zm_T, z = zm_w u_5 3 (zn a) (u 0 2) := ⟨_, rfl⟩
      have hN : zc_N g_6 u_7 := by rw [hg_6, hu_7]; exact zc_Nw hN (zc_l102 (zi_nl (by omega) (by decide))) _
      refine lv_aload_n X.1 X.2.1 dX9_enrol_33 rfl (lv_at hl 1 rfl) ?_
      refine zr_get (r := 100) (v := .ref (ad 103)) X hW fs_X9_19_8 dX9_enrol_34 (zc_s100 hS) rfl rfl rfl ?_
      refine lv_iload_n X.1 X.2.1 dX9_enrol_37 rfl (lv_at hl 2 rfl) ?_
      refine lv_iload_n X.1 X.2.1 dX9_enrol_38 rfl (lv_at hl 0 rfl) ?_
      refine zr_callV (As := [.int a, .int (u 0 2)]) (rest := []) X hW hl.1 md_X0_enter ms_X9_84 dX9_enrol_39 (zc_s103 hS) rfl rfl rfl rfl (Nat.le_of_ble_eq_true rfl) ⟨Nat.le_of_ble_eq_true rfl, Nat.le_of_ble_eq_true rfl⟩ ⟨Nat.le_of_ble_eq_true rfl, Nat.le_of_ble_eq_true rfl⟩ (c_X0_enter l Y N0 ad sh g_6 u_7 hS hN (fun i hi => by rw [hu_7, hu_5]; exact (zI_bk hI i hi).1) a (u 0 2) (by omega)) (fun v9 ad9 sh9 g9 H locs hp hW => ?_)
      obtain ⟨rfl, rfl, rfl, hN, hbf⟩ := hp
      obtain ⟨g_8, rfl⟩ : ∃ z : zm_T, z = g9 := ⟨_, rfl⟩
      refine lv_iload_n X.1 X.2.1 dX9_enrol_42 rfl (lv_at hl 0 rfl) ?_
      have e9 : sp_enrol a u = (u 0 2, zm_w (zm_w (zm_w (if (u 5 (zn a)).toInt < 0 then zs_clr (zm_w u 6 (zn a) 20) (zn a) else u) 5 (zn a) (u 0 2)) 3 (zn a) (u 0 2)) 0 2 (u 0 2 + 1)) := (by unfold sp_enrol; (repeat (first | refine (if_pos (by omega)).trans ?_ | refine (if_neg (by omega)).trans ?_)); rfl)
      have eu : zm_w (if (u_7 5 (zn a)).toInt < 0 then zs_clr (zm_w u_7 6 (zn a) 20) (zn a) else u_7) 5 (zn a) (u 0 2) = zm_w (zm_w (zm_w (if (u 5 (zn a)).toInt < 0 then zs_clr (zm_w u 6 (zn a) 20) (zn a) else u) 5 (zn a) (u 0 2)) 3 (zn a) (u 0 2)) 0 2 (u 0 2 + 1) := by
        rw [hu_7, hu_5]
        show zm_w (if (u 5 (zn a)).toInt < 0 then _ else _) 5 (zn a) _ = _
        by_cases hn9 : (u 5 (zn a)).toInt < 0
        · rw [if_pos hn9, if_pos hn9]; exact zs_encomm u (zn a) _ _
        · rw [if_neg hn9, if_neg hn9]; exact zs_encomm2 u (zn a) _ _
      rw [eu] at hN
      have hg9 : ∀ r : Nat, ¬ (100 ≤ r ∧ r ≤ 132 ∧ ¬ (115 ≤ r ∧ r ≤ 120)) → g_8 r = g r := fun r hr => by rw [hbf r (by omega), hg_6, hg_4, zm_wr (by omega), zm_wr (by omega)]
      have hu9 : ∀ r i : Nat, ((9 ≤ r ∧ r ≤ 18) ∨ r = 20 ∨ r = 22 ∨ r = 23 ∨ r = 24 ∨ r = 29 ∨ (r = 0 ∧ (i = 8 ∨ i = 28))) → (zm_w (zm_w (zm_w (if (u 5 (zn a)).toInt < 0 then zs_clr (zm_w u 6 (zn a) 20) (zn a) else u) 5 (zn a) (u 0 2)) 3 (zn a) (u 0 2)) 0 2 (u 0 2 + 1)) r i = u r i := by
        intro r i h
        rw [zm_wn _ _ (by omega), zm_wn _ _ (by omega), zm_wn _ _ (by omega)]
        by_cases hn9 : (u 5 (zn a)).toInt < 0
        · rw [if_pos hn9]; unfold zs_clr; rw [if_neg (by omega), zm_wn _ _ (by omega)]
        · rw [if_neg hn9]
      have hR9 := zc_Rof hR hN hu9 (fun r h => hg9 r (by omega)) (fun j hj => by rw [hg9 _ (by omega)])
      exact zr_iret X hW dX9_enrol_43 (Nat.le_refl _) (Nat.le_refl _) ⟨by rw [e9], by rw [e9]; exact hR9, zc_fr1 (fun r h => hg9 r (by omega))⟩
    · subst h9
      have h_2 : ¬ ((u 0 2).toInt + 1 ≤ 200 ∧ (u 0 8).toInt + 0 ≤ 150) := h_2
      refine zr_if_ne (a := 0) (tgt := 21) X dX9_enrol_15 (by decide) (by decide) (fun c9 => absurd c9 (by decide)) (fun _ => ?_)
      refine lv_bipush (v := (-7)) X.1 X.2.1 dX9_enrol_18 (by decide) ?_
      have e9 : sp_enrol a u = ((-7), u) := (by unfold sp_enrol; (repeat (first | refine (if_pos (by omega)).trans ?_ | refine (if_neg (by omega)).trans ?_)); rfl)
      exact zr_iret X hW dX9_enrol_20 (Nat.le_refl _) (Nat.le_refl _) ⟨by rw [e9], by rw [e9]; exact hR, zc_fr0⟩
  · subst h9
    have h_1 : ¬ (zi_in a 0 5) := h_1
    refine zr_if_ne (a := 0) (tgt := 9) X dX9_enrol_4 (by decide) (by decide) (fun c9 => absurd c9 (by decide)) (fun _ => ?_)
    refine lv_iconst (v := (-1)) X.1 X.2.1 dX9_enrol_7 (by decide) ?_
    have e9 : sp_enrol a u = ((-1), u) := (by unfold sp_enrol; (repeat (first | refine (if_pos (by omega)).trans ?_ | refine (if_neg (by omega)).trans ?_)); rfl)
    exact zr_iret X hW dX9_enrol_8 (Nat.le_refl _) (Nat.le_refl _) ⟨by rw [e9], by rw [e9]; exact hR, zc_fr0⟩

set_option maxHeartbeats 4000000 in
set_option maxRecDepth 100000 in
theorem c_X9_save (l : Launch) (Y : zw_Y) (N0 : Nat) (ad : Nat → Nat) (sh : Nat → Option zw_Sh) (g u : zm_T) (hR : zc_R sh g u) (hI : zm_I u) : zw_Met l Y N0 yX9_save cX9_save 1 (some .int) 3 63 0 0 ad sh g [.ref (ad 100)] (zc_Po ad sh g (sp_save u)) := by
  refine zw_meth (by decide) (Nat.le_of_ble_eq_true rfl) ?_
  intro p e s m below meth c ls X hnm hl hW
  have hl : lv_has ls 1 [(0, .ref (ad 100))] := hl
  have hS := hR.1
  have hN0 := hR.2.1
  have hN := hR.2.1
  have hB : ∀ i : Nat, i < 12 → -1 ≤ (u 5 i).toInt := fun i hi => (zI_bk hI i hi).1
  have hT : ∀ i : Nat, i < 12 → -1 ≤ (u 23 i).toInt := fun i hi => (zI_tk hI i hi).1
  refine lv_aload_n X.1 X.2.1 dX9_save_0 rfl (lv_at hl 0 rfl) ?_
  refine zr_get (r := 100) (v := .ref (ad 104)) X hW fs_X9_23_8 dX9_save_1 (zc_s100 hS) rfl rfl rfl ?_
  refine lv_aload_n X.1 X.2.1 dX9_save_4 rfl (lv_at hl 0 rfl) ?_
  refine zr_get (r := 100) (v := .ref (ad 103)) X hW fs_X9_19_8 dX9_save_5 (zc_s100 hS) rfl rfl rfl ?_
  refine zr_callV (As := [.ref (ad 103)]) (rest := []) X hW hl.1 md_X0_copyFrom ms_X9_105 dX9_save_8 (zc_s104 hS) rfl rfl rfl rfl (Nat.le_of_ble_eq_true rfl) ⟨Nat.le_of_ble_eq_true rfl, Nat.le_of_ble_eq_true rfl⟩ ⟨Nat.le_of_ble_eq_true rfl, Nat.le_of_ble_eq_true rfl⟩ (c_X0_copyFrom_s l Y N0 ad sh g u hS hN) (fun v9 ad9 sh9 g9 H locs hp hW => ?_)
  obtain ⟨rfl, rfl, rfl, hN, hbf⟩ := hp
  obtain ⟨g_1, rfl⟩ : ∃ z : zm_T, z = g9 := ⟨_, rfl⟩
  obtain ⟨u_2, hu_2⟩ : ∃ z : zm_T, z = zs_cp u 0 6 := ⟨_, rfl⟩
  rw [← hu_2] at hN
  have hB : ∀ i : Nat, i < 12 → -1 ≤ (u_2 5 i).toInt := fun i hi => by
    rw [hu_2]; unfold zs_cp; split
    · exact hB _ (by omega)
    · rw [if_neg (by omega), if_neg (by omega)]; exact hB i hi
  refine lv_aload_n X.1 X.2.1 dX9_save_11 rfl (lv_at hl 0 rfl) ?_
  refine zr_get (r := 100) (v := .ref (ad 104)) X hW fs_X9_23_8 dX9_save_12 (zc_s100 hS) rfl rfl rfl ?_
  refine zr_callV (As := []) (rest := []) X hW hl.1 md_X0_size ms_X9_109 dX9_save_15 (zc_s104 hS) rfl rfl rfl rfl (Nat.le_of_ble_eq_true rfl) ⟨Nat.le_of_ble_eq_true rfl, Nat.le_of_ble_eq_true rfl⟩ ⟨Nat.le_of_ble_eq_true rfl, Nat.le_of_ble_eq_true rfl⟩ (c_X0_size_s l Y N0 ad sh g_1 u_2 hS hN hB) (fun v9 ad9 sh9 g9 H locs hp hW => ?_)
  obtain ⟨rfl, rfl, rfl, _, rfl, rfl⟩ := hp
  have e9 : sp_save u = (zs_cnt u_2 6 6, u_2) := by rw [hu_2, zs_cntcp u 0 6 6 (by omega)]; rfl
  have hR9 := zc_bfR hR hN (by rw [hu_2]; exact zs_cpu u 0 6) hbf
  exact zr_iret X hW dX9_save_18 (Nat.le_refl _) (Nat.le_refl _) ⟨by rw [e9], by rw [e9]; exact hR9, zc_fr1 (fun r h => hbf r (by omega))⟩

set_option maxHeartbeats 4000000 in
set_option maxRecDepth 100000 in
theorem c_X9_crash (l : Launch) (Y : zw_Y) (N0 : Nat) (ad : Nat → Nat) (sh : Nat → Option zw_Sh) (g u : zm_T) (hR : zc_R sh g u) (hI : zm_I u) : zw_Met l Y N0 yX9_crash cX9_crash 1 (some .int) 3 63 0 0 ad sh g [.ref (ad 100)] (zc_Po ad sh g (sp_crash u)) := by
  refine zw_meth (by decide) (Nat.le_of_ble_eq_true rfl) ?_
  intro p e s m below meth c ls X hnm hl hW
  have hl : lv_has ls 1 [(0, .ref (ad 100))] := hl
  have hS := hR.1
  have hN0 := hR.2.1
  have hN := hR.2.1
  have hB : ∀ i : Nat, i < 12 → -1 ≤ (u 5 i).toInt := fun i hi => (zI_bk hI i hi).1
  have hT : ∀ i : Nat, i < 12 → -1 ≤ (u 23 i).toInt := fun i hi => (zI_tk hI i hi).1
  refine lv_aload_n X.1 X.2.1 dX9_crash_0 rfl (lv_at hl 0 rfl) ?_
  refine zr_get (r := 100) (v := .ref (ad 103)) X hW fs_X9_19_8 dX9_crash_1 (zc_s100 hS) rfl rfl rfl ?_
  refine lv_aload_n X.1 X.2.1 dX9_crash_4 rfl (lv_at hl 0 rfl) ?_
  refine zr_get (r := 100) (v := .ref (ad 104)) X hW fs_X9_23_8 dX9_crash_5 (zc_s100 hS) rfl rfl rfl ?_
  refine zr_callV (As := [.ref (ad 104)]) (rest := []) X hW hl.1 md_X0_copyFrom ms_X9_105 dX9_crash_8 (zc_s103 hS) rfl rfl rfl rfl (Nat.le_of_ble_eq_true rfl) ⟨Nat.le_of_ble_eq_true rfl, Nat.le_of_ble_eq_true rfl⟩ ⟨Nat.le_of_ble_eq_true rfl, Nat.le_of_ble_eq_true rfl⟩ (c_X0_copyFrom_b l Y N0 ad sh g u hS hN) (fun v9 ad9 sh9 g9 H locs hp hW => ?_)
  obtain ⟨rfl, rfl, rfl, hN, hbf⟩ := hp
  obtain ⟨g_1, rfl⟩ : ∃ z : zm_T, z = g9 := ⟨_, rfl⟩
  obtain ⟨u_2, hu_2⟩ : ∃ z : zm_T, z = zs_cp u 6 0 := ⟨_, rfl⟩
  rw [← hu_2] at hN
  have hB : ∀ i : Nat, i < 12 → -1 ≤ (u_2 5 i).toInt := fun i hi => by
    rw [hu_2]; unfold zs_cp; split
    · exact hB _ (by omega)
    · rw [if_neg (by omega), if_neg (by omega)]; exact hB i hi
  refine lv_aload_n X.1 X.2.1 dX9_crash_11 rfl (lv_at hl 0 rfl) ?_
  refine zr_get (r := 100) (v := .ref (ad 103)) X hW fs_X9_19_8 dX9_crash_12 (zc_s100 hS) rfl rfl rfl ?_
  refine zr_callV (As := []) (rest := []) X hW hl.1 md_X0_size ms_X9_109 dX9_crash_15 (zc_s103 hS) rfl rfl rfl rfl (Nat.le_of_ble_eq_true rfl) ⟨Nat.le_of_ble_eq_true rfl, Nat.le_of_ble_eq_true rfl⟩ ⟨Nat.le_of_ble_eq_true rfl, Nat.le_of_ble_eq_true rfl⟩ (c_X0_size_b l Y N0 ad sh g_1 u_2 hS hN hB) (fun v9 ad9 sh9 g9 H locs hp hW => ?_)
  obtain ⟨rfl, rfl, rfl, _, rfl, rfl⟩ := hp
  have e9 : sp_crash u = (zs_cnt u_2 0 6, u_2) := by rw [hu_2, zs_cntcp u 6 0 6 (by omega)]; rfl
  have hR9 := zc_bfR hR hN (by rw [hu_2]; exact zs_cpu u 6 0) hbf
  exact zr_iret X hW dX9_crash_18 (Nat.le_refl _) (Nat.le_refl _) ⟨by rw [e9], by rw [e9]; exact hR9, zc_fr1 (fun r h => hbf r (by omega))⟩

theorem zc_lm134 {j i : Nat} (h : j < 4) : zc_lm (134 + 2 * j) i = none := by
  cases hq : zc_lm (134 + 2 * j) i with
  | none => rfl
  | some q =>
    obtain ⟨m, k⟩ := q
    exfalso
    unfold zc_lm at hq
    by_cases c0 : (134 + 2 * j) = 100 ∧ i = 0
    · omega
    rw [if_neg c0] at hq
    by_cases c1 : (134 + 2 * j) = 100 ∧ i = 8
    · omega
    rw [if_neg c1] at hq
    by_cases c2 : (134 + 2 * j) = 100 ∧ i = 10
    · omega
    rw [if_neg c2] at hq
    by_cases c3 : (134 + 2 * j) = 100 ∧ i = 11
    · omega
    rw [if_neg c3] at hq
    by_cases c4 : (134 + 2 * j) = 101 ∧ i < 6
    · omega
    rw [if_neg c4] at hq
    by_cases c5 : (134 + 2 * j) = 102 ∧ i < 6
    · omega
    rw [if_neg c5] at hq
    by_cases c6 : (134 + 2 * j) = 108 ∧ i < 200
    · omega
    rw [if_neg c6] at hq
    by_cases c7 : (134 + 2 * j) = 109 ∧ i < 6
    · omega
    rw [if_neg c7] at hq
    by_cases c8 : (134 + 2 * j) = 110 ∧ i < 6
    · omega
    rw [if_neg c8] at hq
    by_cases c9 : (134 + 2 * j) = 112 ∧ i < 6
    · omega
    rw [if_neg c9] at hq
    by_cases c10 : (134 + 2 * j) = 113 ∧ i < 6
    · omega
    rw [if_neg c10] at hq
    by_cases c11 : 121 ≤ (134 + 2 * j) ∧ (134 + 2 * j) < 127 ∧ i < 3
    · omega
    rw [if_neg c11] at hq
    by_cases c12 : 127 ≤ (134 + 2 * j) ∧ (134 + 2 * j) < 133 ∧ i < 3
    · omega
    rw [if_neg c12] at hq
    by_cases c13 : (134 + 2 * j) = 106 ∧ i = 2
    · omega
    rw [if_neg c13] at hq
    by_cases c14 : (134 + 2 * j) = 106 ∧ i = 3
    · omega
    rw [if_neg c14] at hq
    by_cases c15 : (134 + 2 * j) = 119 ∧ i < 3
    · omega
    rw [if_neg c15] at hq
    by_cases c16 : 115 ≤ (134 + 2 * j) ∧ (134 + 2 * j) < 119 ∧ i = 0
    · omega
    rw [if_neg c16] at hq
    by_cases c17 : 115 ≤ (134 + 2 * j) ∧ (134 + 2 * j) < 119 ∧ i = 1
    · omega
    rw [if_neg c17] at hq
    by_cases c18 : 115 ≤ (134 + 2 * j) ∧ (134 + 2 * j) < 119 ∧ i = 3
    · omega
    rw [if_neg c18] at hq
    by_cases c19 : ((134 + 2 * j) = 133 ∨ (134 + 2 * j) = 135 ∨ (134 + 2 * j) = 137 ∨ (134 + 2 * j) = 139) ∧ i < 2
    · omega
    rw [if_neg c19] at hq
    cases hq
theorem zc_rcv {sh : Nat → Option zw_Sh} {g u : zm_T} (hR : zc_R sh g u) {j T : Nat} (hj : j < 4) (hT : T < 2) (tk sk : Int32) (hlt : tk.toInt < (u 0 8).toInt) : zc_R sh (zm_w (zm_w (zm_w g (133 + 2 * j) T tk) (134 + 2 * j) T sk) (115 + j) 0 0) (zm_w (zm_w (zm_w u 23 (2 * j + 4 + T) tk) 24 (2 * j + 4 + T) sk) 20 (j + 2) 0) := by
  obtain ⟨h1, h2, h3, h4, h5, h6, h7, cf, h8, h9⟩ := hR
  have l1 : zc_lm (133 + 2 * j) T = some (23, 2 * j + 4 + T) := by
    obtain rfl | rfl | rfl | rfl : j = 0 ∨ j = 1 ∨ j = 2 ∨ j = 3 := by omega
    all_goals simp [zc_lm, hT]
  have l2 : zc_lm (115 + j) 0 = some (20, j + 2) := by
    obtain rfl | rfl | rfl | rfl : j = 0 ∨ j = 1 ∨ j = 2 ∨ j = 3 := by omega
    all_goals simp [zc_lm]
  have hN := zc_Nw (zc_Nm (zc_Nc (zc_Nw h2 l1 tk) (zc_lm134 hj (i := T)) sk) (m := 24) (k := 2 * j + 4 + T) (fun r i q => by have := zc_lmr q; omega) sk) l2 0
  have hu : ∀ r i : Nat, r ≠ 23 → r ≠ 24 → r ≠ 20 → zm_w (zm_w (zm_w u 23 (2 * j + 4 + T) tk) 24 (2 * j + 4 + T) sk) 20 (j + 2) 0 r i = u r i := fun r i a b c => by rw [zm_wn _ _ (Or.inl c), zm_wn _ _ (Or.inl b), zm_wn _ _ (Or.inl a)]
  have hg : ∀ r : Nat, 141 ≤ r → zm_w (zm_w (zm_w g (133 + 2 * j) T tk) (134 + 2 * j) T sk) (115 + j) 0 0 r = g r := fun r h => by rw [zm_wr (by omega), zm_wr (by omega), zm_wr (by omega)]
  refine ⟨h1, hN, ?_, ?_, by rw [hu 0 8 (by decide) (by decide) (by decide)]; exact h5, ?_, by rw [hu 0 8 (by decide) (by decide) (by decide)]; exact h7, cf, h8, ?_⟩
  · intro j' hj' hn
    by_cases e : j' = j
    · subst e
      exact absurd (by rw [zm_ws]; rfl) hn
    · rw [zm_wn _ _ (Or.inr (by omega)), zm_wn _ _ (Or.inl (by decide)), zm_wn _ _ (Or.inl (by decide))] at hn
      rw [hu 22 _ (by decide) (by decide) (by decide), zm_wn _ _ (Or.inl (by omega)), zm_wn _ _ (Or.inl (by omega)), zm_wn _ _ (Or.inl (by omega))]
      exact h3 j' hj' hn
  · intro j' t' hj' ht' hn
    rw [zm_wn _ _ (Or.inl (by decide)), zm_wn _ _ (Or.inl (by decide))] at hn
    rw [zm_wn _ _ (Or.inl (by omega))]
    by_cases e : j' = j ∧ t' = T
    · obtain ⟨rfl, rfl⟩ := e
      rw [zm_ws, zm_wn _ _ (Or.inl (by decide)), zm_ws]
    · rw [zm_wn _ _ (by omega)] at hn
      rw [zm_wn _ _ (by omega), zm_wn _ _ (Or.inl (by omega)), zm_wn _ _ (Or.inl (by decide)), zm_wn _ _ (by omega), zm_wn _ _ (Or.inl (by decide))]
      exact h4 j' t' hj' ht' hn
  · intro i hi
    rw [hu 0 8 (by decide) (by decide) (by decide)] at hi
    have q := h6 i hi
    unfold zc_sl at q ⊢
    rw [hu 9 i (by decide) (by decide) (by decide), hu 10 i (by decide) (by decide) (by decide), hu 11 i (by decide) (by decide) (by decide), hu 12 i (by decide) (by decide) (by decide), hu 13 i (by decide) (by decide) (by decide), hu 14 i (by decide) (by decide) (by decide), hu 15 i (by decide) (by decide) (by decide), hu 16 i (by decide) (by decide) (by decide), hu 17 i (by decide) (by decide) (by decide), hu 18 i (by decide) (by decide) (by decide), hg (200 + 2 * i) (by omega), hg (201 + 2 * i) (by omega)]
    exact q
  · intro i hi
    rw [hu 0 28 (by decide) (by decide) (by decide)] at hi
    rw [h9 i hi, hu 29 i (by decide) (by decide) (by decide)]

set_option maxHeartbeats 4000000 in
set_option maxRecDepth 100000 in
theorem c_X9_receive (l : Launch) (Y : zw_Y) (N0 : Nat) (ad : Nat → Nat) (sh : Nat → Option zw_Sh) (g u : zm_T) (hR : zc_R sh g u) (hI : zm_I u) (a q t : Int32) : zw_Met l Y N0 yX9_receive cX9_receive 6 (some .boolean) 3 68 0 0 ad sh g [.ref (ad 100), .int a, .int q, .int t] (zc_Po ad sh g (sp_receive a q t u)) := by
  refine zw_meth (by decide) (Nat.le_of_ble_eq_true rfl) ?_
  intro p e s m below meth c ls X hnm hl hW
  have hl : lv_has ls 6 [(0, .ref (ad 100)), (1, .int a), (2, .int q), (3, .int t)] := hl
  have hS := hR.1
  have hN0 := hR.2.1
  have hN := hR.2.1
  have hB : ∀ i : Nat, i < 12 → -1 ≤ (u 5 i).toInt := fun i hi => (zI_bk hI i hi).1
  have hT : ∀ i : Nat, i < 12 → -1 ≤ (u 23 i).toInt := fun i hi => (zI_tk hI i hi).1
  have hse := zI_se hI
  have hke := zI_ke hI
  refine lv_aload_n X.1 X.2.1 dX9_receive_0 rfl (lv_at hl 0 rfl) ?_
  refine lv_iload_n X.1 X.2.1 dX9_receive_1 rfl (lv_at hl 1 rfl) ?_
  refine zr_callV (As := [.int a]) (rest := []) X hW hl.1 md_X9_userAt ms_X9_112 dX9_receive_2 (zc_s100 hS) rfl rfl rfl rfl (Nat.le_of_ble_eq_true rfl) ⟨Nat.le_of_ble_eq_true rfl, Nat.le_of_ble_eq_true rfl⟩ ⟨Nat.le_of_ble_eq_true rfl, Nat.le_of_ble_eq_true rfl⟩ (c_X9_userAt l Y N0 ad sh g hS a) (fun v9 ad9 sh9 g9 H locs hp hW => ?_)
  rcases hp with ⟨rfl, rfl, rfl, ⟨h9, h8⟩ | ⟨h9, h8⟩ | ⟨h9, h8⟩ | ⟨h9, h8⟩ | ⟨h9, h8⟩⟩
  · subst h8
    subst h9
    refine lv_astore (lv' := [(4, .ref (ad 115)), (0, .ref (ad 100)), (1, .int 2), (2, .int q), (3, .int t)]) X.1 X.2.1 dX9_receive_5 hl (by decide) rfl (fun ls hl => ?_)
    refine lv_aload X.1 X.2.1 dX9_receive_7 (lv_at hl 0 rfl) ?_
    refine lv_ifnull X.1 X.2.1 dX9_receive_9 ?_
    refine lv_aload X.1 X.2.1 dX9_receive_12 (lv_at hl 0 rfl) ?_
    refine zr_callV (As := []) (rest := []) X hW hl.1 md_X8_hasRequest ms_X9_151 dX9_receive_14 (zc_s115 hS) rfl rfl rfl rfl (Nat.le_of_ble_eq_true rfl) ⟨Nat.le_of_ble_eq_true rfl, Nat.le_of_ble_eq_true rfl⟩ ⟨Nat.le_of_ble_eq_true rfl, Nat.le_of_ble_eq_true rfl⟩ (c_X8_hasRequest_0 l Y N0 ad sh g u hS hN) (fun v9 ad9 sh9 g9 H locs hp hW => ?_)
    rcases hp with ⟨rfl, rfl, rfl, ⟨h_1, h9⟩ | ⟨h_1, h9⟩⟩
    · subst h9
      have h_1 : ¬ (u 20 2).toInt = 0 := h_1
      refine zr_if_eq (a := 1) (tgt := 28) X dX9_receive_17 (by decide) (by decide) (fun c9 => absurd c9 (by decide)) (fun _ => ?_)
      refine lv_aload_n X.1 X.2.1 dX9_receive_20 rfl (lv_at hl 1 rfl) ?_
      refine lv_iload_n X.1 X.2.1 dX9_receive_21 rfl (lv_at hl 4 rfl) ?_
      refine zr_callV (As := [.int t]) (rest := []) X hW hl.1 md_X9_sealAt ms_X9_155 dX9_receive_22 (zc_s100 hS) rfl rfl rfl rfl (Nat.le_of_ble_eq_true rfl) ⟨Nat.le_of_ble_eq_true rfl, Nat.le_of_ble_eq_true rfl⟩ ⟨Nat.le_of_ble_eq_true rfl, Nat.le_of_ble_eq_true rfl⟩ (c_X9_sealAt l Y N0 ad sh g u hR hI t) (fun v9 ad9 sh9 g9 H locs hp hW => ?_)
      rcases hp with ⟨rfl, rfl, rfl, ⟨h_2, h8⟩ | ⟨h_2, h8⟩⟩
      · subst h8
        have h_2 : zs_sl u t := h_2
        refine lv_ifnonnull (tgt := 30) X.1 X.2.1 dX9_receive_25 (by decide) ?_
        refine lv_aload_n X.1 X.2.1 dX9_receive_30 rfl (lv_at hl 1 rfl) ?_
        refine lv_iload_n X.1 X.2.1 dX9_receive_31 rfl (lv_at hl 3 rfl) ?_
        refine lv_aload X.1 X.2.1 dX9_receive_32 (lv_at hl 0 rfl) ?_
        refine zr_get (r := 115) (v := .int (u 22 2)) X hW fs_X9_159_7 dX9_receive_34 (zc_s115 hS) rfl rfl (congrArg Value.int (hR.2.2.1 0 (by omega) h_1)) ?_
        refine zr_callV (As := [.int q, .int (u 22 2)]) (rest := []) X hW hl.1 md_X9_openPart ms_X9_162 dX9_receive_37 (zc_s100 hS) rfl rfl rfl rfl (Nat.le_of_ble_eq_true rfl) ⟨Nat.le_of_ble_eq_true rfl, Nat.le_of_ble_eq_true rfl⟩ ⟨Nat.le_of_ble_eq_true rfl, Nat.le_of_ble_eq_true rfl⟩ (c_X9_openPart l Y N0 ad sh g u hR hI q (u 22 2)) (fun v9 ad9 sh9 g9 H locs hp hW => ?_)
        rcases hp with ⟨rfl, rfl, rfl, ⟨h_3, h8⟩ | ⟨h_3, h8⟩⟩
        · subst h8
          have h_3 : zs_op u (u 22 2) q 3 := h_3
          have hq_4 := (hR.2.2.2.2.2.1 (zn q) (by simp only [zi_n]; omega)).2.2.1 h_3.2.1
          refine lv_astore (lv' := [(5, .ref (ad (200 + 2 * (zn q)))), (4, .ref (ad 115)), (0, .ref (ad 100)), (1, .int 2), (2, .int q), (3, .int t)]) X.1 X.2.1 dX9_receive_40 hl (by decide) rfl (fun ls hl => ?_)
          refine lv_aload X.1 X.2.1 dX9_receive_42 (lv_at hl 0 rfl) ?_
          refine lv_ifnull X.1 X.2.1 dX9_receive_44 ?_
          have htg := zI_tg hI 2 (by omega)
          refine lv_aload X.1 X.2.1 dX9_receive_47 (lv_at hl 0 rfl) ?_
          refine zr_get (r := (200 + 2 * (zn q))) (v := .int (u 13 ((zn q)))) X hW fs_X9_166_4 dX9_receive_49 hq_4.1 rfl rfl (congrArg Value.int hq_4.2.2.2.1) ?_
          refine lv_aload X.1 X.2.1 dX9_receive_52 (lv_at hl 1 rfl) ?_
          refine zr_get (r := 115) (v := .int (u 20 2)) X hW fs_X9_171_7 dX9_receive_54 (zc_s115 hS) rfl rfl (congrArg Value.int (hN0 _ _ _ _ rfl)) ?_
          refine zr_icmp_ne (a := (u 13 ((zn q))).toInt) (b := (u 20 2).toInt) (tgt := 73) X dX9_receive_57 (by decide) rfl rfl (fun c_5 => ?_) (fun c_5 => ?_)
          · refine lv_iconst (v := 0) X.1 X.2.1 dX9_receive_73 (by decide) ?_
            have e9 : sp_receive 2 q t u = (0, u) := (by unfold sp_receive; simp only [show zn (2 : Int32) = 2 from rfl]; (first | refine (if_pos ⟨by decide, by omega⟩).trans ?_ | refine (if_neg (by first | omega | (intro h9; obtain ⟨-, h9⟩ := h9; omega))).trans ?_); rfl)
            exact zr_zret X hW dX9_receive_74 (Nat.le_refl _) (Nat.le_refl _) rfl ⟨by rw [e9], by rw [e9]; exact hR, zc_fr0⟩
          · refine lv_aload X.1 X.2.1 dX9_receive_60 (lv_at hl 0 rfl) ?_
            refine zr_get (r := (200 + 2 * (zn q))) (v := .int (u 14 ((zn q)))) X hW fs_X9_174_4 dX9_receive_62 hq_4.1 rfl rfl (congrArg Value.int hq_4.2.2.2.2.1) ?_
            refine lv_aload X.1 X.2.1 dX9_receive_65 (lv_at hl 1 rfl) ?_
            refine zr_get (r := 115) (v := .int (u 21 2)) X hW fs_X9_177_7 dX9_receive_67 (zc_s115 hS) rfl rfl (congrArg Value.int (hN0 _ _ _ _ rfl)) ?_
            refine zr_icmp_eq (a := (u 14 ((zn q))).toInt) (b := (u 21 2).toInt) (tgt := 75) X dX9_receive_70 (by decide) rfl rfl (fun c_6 => ?_) (fun c_6 => ?_)
            · refine lv_aload X.1 X.2.1 dX9_receive_75 (lv_at hl 1 rfl) ?_
              refine lv_iload_n X.1 X.2.1 dX9_receive_77 rfl (lv_at hl 5 rfl) ?_
              refine lv_aload X.1 X.2.1 dX9_receive_78 (lv_at hl 0 rfl) ?_
              refine zr_get (r := (200 + 2 * (zn q))) (v := .int (u 12 ((zn q)))) X hW fs_X9_180_4 dX9_receive_80 hq_4.1 rfl rfl (congrArg Value.int hq_4.2.2.1) ?_
              refine zr_callV (As := [.int t, .int (u 12 ((zn q)))]) (rest := []) X hW hl.1 md_X8_closeRequest ms_X9_183 dX9_receive_83 (zc_s115 hS) rfl rfl rfl rfl (Nat.le_of_ble_eq_true rfl) ⟨Nat.le_of_ble_eq_true rfl, Nat.le_of_ble_eq_true rfl⟩ ⟨Nat.le_of_ble_eq_true rfl, Nat.le_of_ble_eq_true rfl⟩ (c_X8_closeRequest_0 l Y N0 ad sh g u hS hN t (u 12 ((zn q))) (by omega)) (fun v9 ad9 sh9 g9 H locs hp hW => ?_)
              obtain ⟨rfl, rfl, rfl, rfl⟩ := hp
              obtain ⟨g_10, hg_10⟩ : ∃ z : zm_T, z = zm_w g 133 (zn (u 21 2)) t := ⟨_, rfl⟩
              obtain ⟨g_11, hg_11⟩ : ∃ z : zm_T, z = zm_w g_10 134 (zn (u 21 2)) (u 12 ((zn q))) := ⟨_, rfl⟩
              obtain ⟨g_12, hg_12⟩ : ∃ z : zm_T, z = zm_w g_11 115 0 0 := ⟨_, rfl⟩
              rw [← hg_10, ← hg_11, ← hg_12] at hW
              refine lv_iconst (v := 1) X.1 X.2.1 dX9_receive_86 (by decide) ?_
              have e9 : sp_receive 2 q t u = (1, zm_w (zm_w (zm_w u 23 (2 * zn 2 + zn (u 21 (zn 2))) t) 24 (2 * zn 2 + zn (u 21 (zn 2))) (u 12 (zn q))) 20 (zn 2) 0) := if_pos ⟨by decide, by simp only [show zn (2 : Int32) = 2 from rfl]; omega⟩
              have hR9 : zc_R sh g_12 (zm_w (zm_w (zm_w u 23 (2 * zn 2 + zn (u 21 (zn 2))) t) 24 (2 * zn 2 + zn (u 21 (zn 2))) (u 12 (zn q))) 20 (zn 2) 0) := by rw [hg_12, hg_11, hg_10]; exact zc_rcv hR (j := 0) (T := zn (u 21 2)) (by omega) (zi_nl (by omega) (by decide)) t (u 12 (zn q)) (by omega)
              exact zr_zret X hW dX9_receive_87 (Nat.le_refl _) (Nat.le_refl _) rfl ⟨by rw [e9], by rw [e9]; exact hR9, zc_fr1 (fun r h => by rw [hg_12, hg_11, hg_10, zm_wr (by omega), zm_wr (by omega), zm_wr (by omega)])⟩
            · refine lv_iconst (v := 0) X.1 X.2.1 dX9_receive_73 (by decide) ?_
              have e9 : sp_receive 2 q t u = (0, u) := (by unfold sp_receive; simp only [show zn (2 : Int32) = 2 from rfl]; (first | refine (if_pos ⟨by decide, by omega⟩).trans ?_ | refine (if_neg (by first | omega | (intro h9; obtain ⟨-, h9⟩ := h9; omega))).trans ?_); rfl)
              exact zr_zret X hW dX9_receive_74 (Nat.le_refl _) (Nat.le_refl _) rfl ⟨by rw [e9], by rw [e9]; exact hR, zc_fr0⟩
        · subst h8
          have h_3 : ¬ zs_op u (u 22 2) q 3 := h_3
          refine lv_astoreN (lv' := [(5, .null), (4, .ref (ad 115)), (0, .ref (ad 100)), (1, .int 2), (2, .int q), (3, .int t)]) X.1 X.2.1 dX9_receive_40 hl (by decide) rfl (fun ls hl => ?_)
          refine lv_aloadN X.1 X.2.1 dX9_receive_42 (lv_at hl 0 rfl) ?_
          refine lv_ifnullN (tgt := 73) X.1 X.2.1 dX9_receive_44 (by decide) ?_
          refine lv_iconst (v := 0) X.1 X.2.1 dX9_receive_73 (by decide) ?_
          have e9 : sp_receive 2 q t u = (0, u) := (by unfold sp_receive; simp only [show zn (2 : Int32) = 2 from rfl]; (first | refine (if_pos ⟨by decide, by omega⟩).trans ?_ | refine (if_neg (by first | omega | (intro h9; obtain ⟨-, h9⟩ := h9; omega))).trans ?_); rfl)
          exact zr_zret X hW dX9_receive_74 (Nat.le_refl _) (Nat.le_refl _) rfl ⟨by rw [e9], by rw [e9]; exact hR, zc_fr0⟩
      · subst h8
        have h_2 : ¬ zs_sl u t := h_2
        refine lv_ifnonnullN X.1 X.2.1 dX9_receive_25 ?_
        refine lv_iconst (v := 0) X.1 X.2.1 dX9_receive_28 (by decide) ?_
        have e9 : sp_receive 2 q t u = (0, u) := (by unfold sp_receive; simp only [show zn (2 : Int32) = 2 from rfl]; (first | refine (if_pos ⟨by decide, by omega⟩).trans ?_ | refine (if_neg (by first | omega | (intro h9; obtain ⟨-, h9⟩ := h9; omega))).trans ?_); rfl)
        exact zr_zret X hW dX9_receive_29 (Nat.le_refl _) (Nat.le_refl _) rfl ⟨by rw [e9], by rw [e9]; exact hR, zc_fr0⟩
    · subst h9
      have h_1 : ¬ (¬ (u 20 2).toInt = 0) := h_1
      refine zr_if_eq (a := 0) (tgt := 28) X dX9_receive_17 (by decide) (by decide) (fun _ => ?_) (fun c9 => absurd c9 (by decide))
      refine lv_iconst (v := 0) X.1 X.2.1 dX9_receive_28 (by decide) ?_
      have e9 : sp_receive 2 q t u = (0, u) := (by unfold sp_receive; simp only [show zn (2 : Int32) = 2 from rfl]; (first | refine (if_pos ⟨by decide, by omega⟩).trans ?_ | refine (if_neg (by first | omega | (intro h9; obtain ⟨-, h9⟩ := h9; omega))).trans ?_); rfl)
      exact zr_zret X hW dX9_receive_29 (Nat.le_refl _) (Nat.le_refl _) rfl ⟨by rw [e9], by rw [e9]; exact hR, zc_fr0⟩
  · subst h8
    subst h9
    refine lv_astore (lv' := [(4, .ref (ad 116)), (0, .ref (ad 100)), (1, .int 3), (2, .int q), (3, .int t)]) X.1 X.2.1 dX9_receive_5 hl (by decide) rfl (fun ls hl => ?_)
    refine lv_aload X.1 X.2.1 dX9_receive_7 (lv_at hl 0 rfl) ?_
    refine lv_ifnull X.1 X.2.1 dX9_receive_9 ?_
    refine lv_aload X.1 X.2.1 dX9_receive_12 (lv_at hl 0 rfl) ?_
    refine zr_callV (As := []) (rest := []) X hW hl.1 md_X8_hasRequest ms_X9_151 dX9_receive_14 (zc_s116 hS) rfl rfl rfl rfl (Nat.le_of_ble_eq_true rfl) ⟨Nat.le_of_ble_eq_true rfl, Nat.le_of_ble_eq_true rfl⟩ ⟨Nat.le_of_ble_eq_true rfl, Nat.le_of_ble_eq_true rfl⟩ (c_X8_hasRequest_1 l Y N0 ad sh g u hS hN) (fun v9 ad9 sh9 g9 H locs hp hW => ?_)
    rcases hp with ⟨rfl, rfl, rfl, ⟨h_13, h9⟩ | ⟨h_13, h9⟩⟩
    · subst h9
      have h_13 : ¬ (u 20 3).toInt = 0 := h_13
      refine zr_if_eq (a := 1) (tgt := 28) X dX9_receive_17 (by decide) (by decide) (fun c9 => absurd c9 (by decide)) (fun _ => ?_)
      refine lv_aload_n X.1 X.2.1 dX9_receive_20 rfl (lv_at hl 1 rfl) ?_
      refine lv_iload_n X.1 X.2.1 dX9_receive_21 rfl (lv_at hl 4 rfl) ?_
      refine zr_callV (As := [.int t]) (rest := []) X hW hl.1 md_X9_sealAt ms_X9_155 dX9_receive_22 (zc_s100 hS) rfl rfl rfl rfl (Nat.le_of_ble_eq_true rfl) ⟨Nat.le_of_ble_eq_true rfl, Nat.le_of_ble_eq_true rfl⟩ ⟨Nat.le_of_ble_eq_true rfl, Nat.le_of_ble_eq_true rfl⟩ (c_X9_sealAt l Y N0 ad sh g u hR hI t) (fun v9 ad9 sh9 g9 H locs hp hW => ?_)
      rcases hp with ⟨rfl, rfl, rfl, ⟨h_14, h8⟩ | ⟨h_14, h8⟩⟩
      · subst h8
        have h_14 : zs_sl u t := h_14
        refine lv_ifnonnull (tgt := 30) X.1 X.2.1 dX9_receive_25 (by decide) ?_
        refine lv_aload_n X.1 X.2.1 dX9_receive_30 rfl (lv_at hl 1 rfl) ?_
        refine lv_iload_n X.1 X.2.1 dX9_receive_31 rfl (lv_at hl 3 rfl) ?_
        refine lv_aload X.1 X.2.1 dX9_receive_32 (lv_at hl 0 rfl) ?_
        refine zr_get (r := 116) (v := .int (u 22 3)) X hW fs_X9_159_7 dX9_receive_34 (zc_s116 hS) rfl rfl (congrArg Value.int (hR.2.2.1 1 (by omega) h_13)) ?_
        refine zr_callV (As := [.int q, .int (u 22 3)]) (rest := []) X hW hl.1 md_X9_openPart ms_X9_162 dX9_receive_37 (zc_s100 hS) rfl rfl rfl rfl (Nat.le_of_ble_eq_true rfl) ⟨Nat.le_of_ble_eq_true rfl, Nat.le_of_ble_eq_true rfl⟩ ⟨Nat.le_of_ble_eq_true rfl, Nat.le_of_ble_eq_true rfl⟩ (c_X9_openPart l Y N0 ad sh g u hR hI q (u 22 3)) (fun v9 ad9 sh9 g9 H locs hp hW => ?_)
        rcases hp with ⟨rfl, rfl, rfl, ⟨h_15, h8⟩ | ⟨h_15, h8⟩⟩
        · subst h8
          have h_15 : zs_op u (u 22 3) q 3 := h_15
          have hq_16 := (hR.2.2.2.2.2.1 (zn q) (by simp only [zi_n]; omega)).2.2.1 h_15.2.1
          refine lv_astore (lv' := [(5, .ref (ad (200 + 2 * (zn q)))), (4, .ref (ad 116)), (0, .ref (ad 100)), (1, .int 3), (2, .int q), (3, .int t)]) X.1 X.2.1 dX9_receive_40 hl (by decide) rfl (fun ls hl => ?_)
          refine lv_aload X.1 X.2.1 dX9_receive_42 (lv_at hl 0 rfl) ?_
          refine lv_ifnull X.1 X.2.1 dX9_receive_44 ?_
          have htg := zI_tg hI 3 (by omega)
          refine lv_aload X.1 X.2.1 dX9_receive_47 (lv_at hl 0 rfl) ?_
          refine zr_get (r := (200 + 2 * (zn q))) (v := .int (u 13 ((zn q)))) X hW fs_X9_166_4 dX9_receive_49 hq_16.1 rfl rfl (congrArg Value.int hq_16.2.2.2.1) ?_
          refine lv_aload X.1 X.2.1 dX9_receive_52 (lv_at hl 1 rfl) ?_
          refine zr_get (r := 116) (v := .int (u 20 3)) X hW fs_X9_171_7 dX9_receive_54 (zc_s116 hS) rfl rfl (congrArg Value.int (hN0 _ _ _ _ rfl)) ?_
          refine zr_icmp_ne (a := (u 13 ((zn q))).toInt) (b := (u 20 3).toInt) (tgt := 73) X dX9_receive_57 (by decide) rfl rfl (fun c_17 => ?_) (fun c_17 => ?_)
          · refine lv_iconst (v := 0) X.1 X.2.1 dX9_receive_73 (by decide) ?_
            have e9 : sp_receive 3 q t u = (0, u) := (by unfold sp_receive; simp only [show zn (3 : Int32) = 3 from rfl]; (first | refine (if_pos ⟨by decide, by omega⟩).trans ?_ | refine (if_neg (by first | omega | (intro h9; obtain ⟨-, h9⟩ := h9; omega))).trans ?_); rfl)
            exact zr_zret X hW dX9_receive_74 (Nat.le_refl _) (Nat.le_refl _) rfl ⟨by rw [e9], by rw [e9]; exact hR, zc_fr0⟩
          · refine lv_aload X.1 X.2.1 dX9_receive_60 (lv_at hl 0 rfl) ?_
            refine zr_get (r := (200 + 2 * (zn q))) (v := .int (u 14 ((zn q)))) X hW fs_X9_174_4 dX9_receive_62 hq_16.1 rfl rfl (congrArg Value.int hq_16.2.2.2.2.1) ?_
            refine lv_aload X.1 X.2.1 dX9_receive_65 (lv_at hl 1 rfl) ?_
            refine zr_get (r := 116) (v := .int (u 21 3)) X hW fs_X9_177_7 dX9_receive_67 (zc_s116 hS) rfl rfl (congrArg Value.int (hN0 _ _ _ _ rfl)) ?_
            refine zr_icmp_eq (a := (u 14 ((zn q))).toInt) (b := (u 21 3).toInt) (tgt := 75) X dX9_receive_70 (by decide) rfl rfl (fun c_18 => ?_) (fun c_18 => ?_)
            · refine lv_aload X.1 X.2.1 dX9_receive_75 (lv_at hl 1 rfl) ?_
              refine lv_iload_n X.1 X.2.1 dX9_receive_77 rfl (lv_at hl 5 rfl) ?_
              refine lv_aload X.1 X.2.1 dX9_receive_78 (lv_at hl 0 rfl) ?_
              refine zr_get (r := (200 + 2 * (zn q))) (v := .int (u 12 ((zn q)))) X hW fs_X9_180_4 dX9_receive_80 hq_16.1 rfl rfl (congrArg Value.int hq_16.2.2.1) ?_
              refine zr_callV (As := [.int t, .int (u 12 ((zn q)))]) (rest := []) X hW hl.1 md_X8_closeRequest ms_X9_183 dX9_receive_83 (zc_s116 hS) rfl rfl rfl rfl (Nat.le_of_ble_eq_true rfl) ⟨Nat.le_of_ble_eq_true rfl, Nat.le_of_ble_eq_true rfl⟩ ⟨Nat.le_of_ble_eq_true rfl, Nat.le_of_ble_eq_true rfl⟩ (c_X8_closeRequest_1 l Y N0 ad sh g u hS hN t (u 12 ((zn q))) (by omega)) (fun v9 ad9 sh9 g9 H locs hp hW => ?_)
              obtain ⟨rfl, rfl, rfl, rfl⟩ := hp
              obtain ⟨g_22, hg_22⟩ : ∃ z : zm_T, z = zm_w g 135 (zn (u 21 3)) t := ⟨_, rfl⟩
              obtain ⟨g_23, hg_23⟩ : ∃ z : zm_T, z = zm_w g_22 136 (zn (u 21 3)) (u 12 ((zn q))) := ⟨_, rfl⟩
              obtain ⟨g_24, hg_24⟩ : ∃ z : zm_T, z = zm_w g_23 116 0 0 := ⟨_, rfl⟩
              rw [← hg_22, ← hg_23, ← hg_24] at hW
              refine lv_iconst (v := 1) X.1 X.2.1 dX9_receive_86 (by decide) ?_
              have e9 : sp_receive 3 q t u = (1, zm_w (zm_w (zm_w u 23 (2 * zn 3 + zn (u 21 (zn 3))) t) 24 (2 * zn 3 + zn (u 21 (zn 3))) (u 12 (zn q))) 20 (zn 3) 0) := if_pos ⟨by decide, by simp only [show zn (3 : Int32) = 3 from rfl]; omega⟩
              have hR9 : zc_R sh g_24 (zm_w (zm_w (zm_w u 23 (2 * zn 3 + zn (u 21 (zn 3))) t) 24 (2 * zn 3 + zn (u 21 (zn 3))) (u 12 (zn q))) 20 (zn 3) 0) := by rw [hg_24, hg_23, hg_22]; exact zc_rcv hR (j := 1) (T := zn (u 21 3)) (by omega) (zi_nl (by omega) (by decide)) t (u 12 (zn q)) (by omega)
              exact zr_zret X hW dX9_receive_87 (Nat.le_refl _) (Nat.le_refl _) rfl ⟨by rw [e9], by rw [e9]; exact hR9, zc_fr1 (fun r h => by rw [hg_24, hg_23, hg_22, zm_wr (by omega), zm_wr (by omega), zm_wr (by omega)])⟩
            · refine lv_iconst (v := 0) X.1 X.2.1 dX9_receive_73 (by decide) ?_
              have e9 : sp_receive 3 q t u = (0, u) := (by unfold sp_receive; simp only [show zn (3 : Int32) = 3 from rfl]; (first | refine (if_pos ⟨by decide, by omega⟩).trans ?_ | refine (if_neg (by first | omega | (intro h9; obtain ⟨-, h9⟩ := h9; omega))).trans ?_); rfl)
              exact zr_zret X hW dX9_receive_74 (Nat.le_refl _) (Nat.le_refl _) rfl ⟨by rw [e9], by rw [e9]; exact hR, zc_fr0⟩
        · subst h8
          have h_15 : ¬ zs_op u (u 22 3) q 3 := h_15
          refine lv_astoreN (lv' := [(5, .null), (4, .ref (ad 116)), (0, .ref (ad 100)), (1, .int 3), (2, .int q), (3, .int t)]) X.1 X.2.1 dX9_receive_40 hl (by decide) rfl (fun ls hl => ?_)
          refine lv_aloadN X.1 X.2.1 dX9_receive_42 (lv_at hl 0 rfl) ?_
          refine lv_ifnullN (tgt := 73) X.1 X.2.1 dX9_receive_44 (by decide) ?_
          refine lv_iconst (v := 0) X.1 X.2.1 dX9_receive_73 (by decide) ?_
          have e9 : sp_receive 3 q t u = (0, u) := (by unfold sp_receive; simp only [show zn (3 : Int32) = 3 from rfl]; (first | refine (if_pos ⟨by decide, by omega⟩).trans ?_ | refine (if_neg (by first | omega | (intro h9; obtain ⟨-, h9⟩ := h9; omega))).trans ?_); rfl)
          exact zr_zret X hW dX9_receive_74 (Nat.le_refl _) (Nat.le_refl _) rfl ⟨by rw [e9], by rw [e9]; exact hR, zc_fr0⟩
      · subst h8
        have h_14 : ¬ zs_sl u t := h_14
        refine lv_ifnonnullN X.1 X.2.1 dX9_receive_25 ?_
        refine lv_iconst (v := 0) X.1 X.2.1 dX9_receive_28 (by decide) ?_
        have e9 : sp_receive 3 q t u = (0, u) := (by unfold sp_receive; simp only [show zn (3 : Int32) = 3 from rfl]; (first | refine (if_pos ⟨by decide, by omega⟩).trans ?_ | refine (if_neg (by first | omega | (intro h9; obtain ⟨-, h9⟩ := h9; omega))).trans ?_); rfl)
        exact zr_zret X hW dX9_receive_29 (Nat.le_refl _) (Nat.le_refl _) rfl ⟨by rw [e9], by rw [e9]; exact hR, zc_fr0⟩
    · subst h9
      have h_13 : ¬ (¬ (u 20 3).toInt = 0) := h_13
      refine zr_if_eq (a := 0) (tgt := 28) X dX9_receive_17 (by decide) (by decide) (fun _ => ?_) (fun c9 => absurd c9 (by decide))
      refine lv_iconst (v := 0) X.1 X.2.1 dX9_receive_28 (by decide) ?_
      have e9 : sp_receive 3 q t u = (0, u) := (by unfold sp_receive; simp only [show zn (3 : Int32) = 3 from rfl]; (first | refine (if_pos ⟨by decide, by omega⟩).trans ?_ | refine (if_neg (by first | omega | (intro h9; obtain ⟨-, h9⟩ := h9; omega))).trans ?_); rfl)
      exact zr_zret X hW dX9_receive_29 (Nat.le_refl _) (Nat.le_refl _) rfl ⟨by rw [e9], by rw [e9]; exact hR, zc_fr0⟩
  · subst h8
    subst h9
    refine lv_astore (lv' := [(4, .ref (ad 117)), (0, .ref (ad 100)), (1, .int 4), (2, .int q), (3, .int t)]) X.1 X.2.1 dX9_receive_5 hl (by decide) rfl (fun ls hl => ?_)
    refine lv_aload X.1 X.2.1 dX9_receive_7 (lv_at hl 0 rfl) ?_
    refine lv_ifnull X.1 X.2.1 dX9_receive_9 ?_
    refine lv_aload X.1 X.2.1 dX9_receive_12 (lv_at hl 0 rfl) ?_
    refine zr_callV (As := []) (rest := []) X hW hl.1 md_X8_hasRequest ms_X9_151 dX9_receive_14 (zc_s117 hS) rfl rfl rfl rfl (Nat.le_of_ble_eq_true rfl) ⟨Nat.le_of_ble_eq_true rfl, Nat.le_of_ble_eq_true rfl⟩ ⟨Nat.le_of_ble_eq_true rfl, Nat.le_of_ble_eq_true rfl⟩ (c_X8_hasRequest_2 l Y N0 ad sh g u hS hN) (fun v9 ad9 sh9 g9 H locs hp hW => ?_)
    rcases hp with ⟨rfl, rfl, rfl, ⟨h_25, h9⟩ | ⟨h_25, h9⟩⟩
    · subst h9
      have h_25 : ¬ (u 20 4).toInt = 0 := h_25
      refine zr_if_eq (a := 1) (tgt := 28) X dX9_receive_17 (by decide) (by decide) (fun c9 => absurd c9 (by decide)) (fun _ => ?_)
      refine lv_aload_n X.1 X.2.1 dX9_receive_20 rfl (lv_at hl 1 rfl) ?_
      refine lv_iload_n X.1 X.2.1 dX9_receive_21 rfl (lv_at hl 4 rfl) ?_
      refine zr_callV (As := [.int t]) (rest := []) X hW hl.1 md_X9_sealAt ms_X9_155 dX9_receive_22 (zc_s100 hS) rfl rfl rfl rfl (Nat.le_of_ble_eq_true rfl) ⟨Nat.le_of_ble_eq_true rfl, Nat.le_of_ble_eq_true rfl⟩ ⟨Nat.le_of_ble_eq_true rfl, Nat.le_of_ble_eq_true rfl⟩ (c_X9_sealAt l Y N0 ad sh g u hR hI t) (fun v9 ad9 sh9 g9 H locs hp hW => ?_)
      rcases hp with ⟨rfl, rfl, rfl, ⟨h_26, h8⟩ | ⟨h_26, h8⟩⟩
      · subst h8
        have h_26 : zs_sl u t := h_26
        refine lv_ifnonnull (tgt := 30) X.1 X.2.1 dX9_receive_25 (by decide) ?_
        refine lv_aload_n X.1 X.2.1 dX9_receive_30 rfl (lv_at hl 1 rfl) ?_
        refine lv_iload_n X.1 X.2.1 dX9_receive_31 rfl (lv_at hl 3 rfl) ?_
        refine lv_aload X.1 X.2.1 dX9_receive_32 (lv_at hl 0 rfl) ?_
        refine zr_get (r := 117) (v := .int (u 22 4)) X hW fs_X9_159_7 dX9_receive_34 (zc_s117 hS) rfl rfl (congrArg Value.int (hR.2.2.1 2 (by omega) h_25)) ?_
        refine zr_callV (As := [.int q, .int (u 22 4)]) (rest := []) X hW hl.1 md_X9_openPart ms_X9_162 dX9_receive_37 (zc_s100 hS) rfl rfl rfl rfl (Nat.le_of_ble_eq_true rfl) ⟨Nat.le_of_ble_eq_true rfl, Nat.le_of_ble_eq_true rfl⟩ ⟨Nat.le_of_ble_eq_true rfl, Nat.le_of_ble_eq_true rfl⟩ (c_X9_openPart l Y N0 ad sh g u hR hI q (u 22 4)) (fun v9 ad9 sh9 g9 H locs hp hW => ?_)
        rcases hp with ⟨rfl, rfl, rfl, ⟨h_27, h8⟩ | ⟨h_27, h8⟩⟩
        · subst h8
          have h_27 : zs_op u (u 22 4) q 3 := h_27
          have hq_28 := (hR.2.2.2.2.2.1 (zn q) (by simp only [zi_n]; omega)).2.2.1 h_27.2.1
          refine lv_astore (lv' := [(5, .ref (ad (200 + 2 * (zn q)))), (4, .ref (ad 117)), (0, .ref (ad 100)), (1, .int 4), (2, .int q), (3, .int t)]) X.1 X.2.1 dX9_receive_40 hl (by decide) rfl (fun ls hl => ?_)
          refine lv_aload X.1 X.2.1 dX9_receive_42 (lv_at hl 0 rfl) ?_
          refine lv_ifnull X.1 X.2.1 dX9_receive_44 ?_
          have htg := zI_tg hI 4 (by omega)
          refine lv_aload X.1 X.2.1 dX9_receive_47 (lv_at hl 0 rfl) ?_
          refine zr_get (r := (200 + 2 * (zn q))) (v := .int (u 13 ((zn q)))) X hW fs_X9_166_4 dX9_receive_49 hq_28.1 rfl rfl (congrArg Value.int hq_28.2.2.2.1) ?_
          refine lv_aload X.1 X.2.1 dX9_receive_52 (lv_at hl 1 rfl) ?_
          refine zr_get (r := 117) (v := .int (u 20 4)) X hW fs_X9_171_7 dX9_receive_54 (zc_s117 hS) rfl rfl (congrArg Value.int (hN0 _ _ _ _ rfl)) ?_
          refine zr_icmp_ne (a := (u 13 ((zn q))).toInt) (b := (u 20 4).toInt) (tgt := 73) X dX9_receive_57 (by decide) rfl rfl (fun c_29 => ?_) (fun c_29 => ?_)
          · refine lv_iconst (v := 0) X.1 X.2.1 dX9_receive_73 (by decide) ?_
            have e9 : sp_receive 4 q t u = (0, u) := (by unfold sp_receive; simp only [show zn (4 : Int32) = 4 from rfl]; (first | refine (if_pos ⟨by decide, by omega⟩).trans ?_ | refine (if_neg (by first | omega | (intro h9; obtain ⟨-, h9⟩ := h9; omega))).trans ?_); rfl)
            exact zr_zret X hW dX9_receive_74 (Nat.le_refl _) (Nat.le_refl _) rfl ⟨by rw [e9], by rw [e9]; exact hR, zc_fr0⟩
          · refine lv_aload X.1 X.2.1 dX9_receive_60 (lv_at hl 0 rfl) ?_
            refine zr_get (r := (200 + 2 * (zn q))) (v := .int (u 14 ((zn q)))) X hW fs_X9_174_4 dX9_receive_62 hq_28.1 rfl rfl (congrArg Value.int hq_28.2.2.2.2.1) ?_
            refine lv_aload X.1 X.2.1 dX9_receive_65 (lv_at hl 1 rfl) ?_
            refine zr_get (r := 117) (v := .int (u 21 4)) X hW fs_X9_177_7 dX9_receive_67 (zc_s117 hS) rfl rfl (congrArg Value.int (hN0 _ _ _ _ rfl)) ?_
            refine zr_icmp_eq (a := (u 14 ((zn q))).toInt) (b := (u 21 4).toInt) (tgt := 75) X dX9_receive_70 (by decide) rfl rfl (fun c_30 => ?_) (fun c_30 => ?_)
            · refine lv_aload X.1 X.2.1 dX9_receive_75 (lv_at hl 1 rfl) ?_
              refine lv_iload_n X.1 X.2.1 dX9_receive_77 rfl (lv_at hl 5 rfl) ?_
              refine lv_aload X.1 X.2.1 dX9_receive_78 (lv_at hl 0 rfl) ?_
              refine zr_get (r := (200 + 2 * (zn q))) (v := .int (u 12 ((zn q)))) X hW fs_X9_180_4 dX9_receive_80 hq_28.1 rfl rfl (congrArg Value.int hq_28.2.2.1) ?_
              refine zr_callV (As := [.int t, .int (u 12 ((zn q)))]) (rest := []) X hW hl.1 md_X8_closeRequest ms_X9_183 dX9_receive_83 (zc_s117 hS) rfl rfl rfl rfl (Nat.le_of_ble_eq_true rfl) ⟨Nat.le_of_ble_eq_true rfl, Nat.le_of_ble_eq_true rfl⟩ ⟨Nat.le_of_ble_eq_true rfl, Nat.le_of_ble_eq_true rfl⟩ (c_X8_closeRequest_2 l Y N0 ad sh g u hS hN t (u 12 ((zn q))) (by omega)) (fun v9 ad9 sh9 g9 H locs hp hW => ?_)
              obtain ⟨rfl, rfl, rfl, rfl⟩ := hp
              obtain ⟨g_34, hg_34⟩ : ∃ z : zm_T, z = zm_w g 137 (zn (u 21 4)) t := ⟨_, rfl⟩
              obtain ⟨g_35, hg_35⟩ : ∃ z : zm_T, z = zm_w g_34 138 (zn (u 21 4)) (u 12 ((zn q))) := ⟨_, rfl⟩
              obtain ⟨g_36, hg_36⟩ : ∃ z : zm_T, z = zm_w g_35 117 0 0 := ⟨_, rfl⟩
              rw [← hg_34, ← hg_35, ← hg_36] at hW
              refine lv_iconst (v := 1) X.1 X.2.1 dX9_receive_86 (by decide) ?_
              have e9 : sp_receive 4 q t u = (1, zm_w (zm_w (zm_w u 23 (2 * zn 4 + zn (u 21 (zn 4))) t) 24 (2 * zn 4 + zn (u 21 (zn 4))) (u 12 (zn q))) 20 (zn 4) 0) := if_pos ⟨by decide, by simp only [show zn (4 : Int32) = 4 from rfl]; omega⟩
              have hR9 : zc_R sh g_36 (zm_w (zm_w (zm_w u 23 (2 * zn 4 + zn (u 21 (zn 4))) t) 24 (2 * zn 4 + zn (u 21 (zn 4))) (u 12 (zn q))) 20 (zn 4) 0) := by rw [hg_36, hg_35, hg_34]; exact zc_rcv hR (j := 2) (T := zn (u 21 4)) (by omega) (zi_nl (by omega) (by decide)) t (u 12 (zn q)) (by omega)
              exact zr_zret X hW dX9_receive_87 (Nat.le_refl _) (Nat.le_refl _) rfl ⟨by rw [e9], by rw [e9]; exact hR9, zc_fr1 (fun r h => by rw [hg_36, hg_35, hg_34, zm_wr (by omega), zm_wr (by omega), zm_wr (by omega)])⟩
            · refine lv_iconst (v := 0) X.1 X.2.1 dX9_receive_73 (by decide) ?_
              have e9 : sp_receive 4 q t u = (0, u) := (by unfold sp_receive; simp only [show zn (4 : Int32) = 4 from rfl]; (first | refine (if_pos ⟨by decide, by omega⟩).trans ?_ | refine (if_neg (by first | omega | (intro h9; obtain ⟨-, h9⟩ := h9; omega))).trans ?_); rfl)
              exact zr_zret X hW dX9_receive_74 (Nat.le_refl _) (Nat.le_refl _) rfl ⟨by rw [e9], by rw [e9]; exact hR, zc_fr0⟩
        · subst h8
          have h_27 : ¬ zs_op u (u 22 4) q 3 := h_27
          refine lv_astoreN (lv' := [(5, .null), (4, .ref (ad 117)), (0, .ref (ad 100)), (1, .int 4), (2, .int q), (3, .int t)]) X.1 X.2.1 dX9_receive_40 hl (by decide) rfl (fun ls hl => ?_)
          refine lv_aloadN X.1 X.2.1 dX9_receive_42 (lv_at hl 0 rfl) ?_
          refine lv_ifnullN (tgt := 73) X.1 X.2.1 dX9_receive_44 (by decide) ?_
          refine lv_iconst (v := 0) X.1 X.2.1 dX9_receive_73 (by decide) ?_
          have e9 : sp_receive 4 q t u = (0, u) := (by unfold sp_receive; simp only [show zn (4 : Int32) = 4 from rfl]; (first | refine (if_pos ⟨by decide, by omega⟩).trans ?_ | refine (if_neg (by first | omega | (intro h9; obtain ⟨-, h9⟩ := h9; omega))).trans ?_); rfl)
          exact zr_zret X hW dX9_receive_74 (Nat.le_refl _) (Nat.le_refl _) rfl ⟨by rw [e9], by rw [e9]; exact hR, zc_fr0⟩
      · subst h8
        have h_26 : ¬ zs_sl u t := h_26
        refine lv_ifnonnullN X.1 X.2.1 dX9_receive_25 ?_
        refine lv_iconst (v := 0) X.1 X.2.1 dX9_receive_28 (by decide) ?_
        have e9 : sp_receive 4 q t u = (0, u) := (by unfold sp_receive; simp only [show zn (4 : Int32) = 4 from rfl]; (first | refine (if_pos ⟨by decide, by omega⟩).trans ?_ | refine (if_neg (by first | omega | (intro h9; obtain ⟨-, h9⟩ := h9; omega))).trans ?_); rfl)
        exact zr_zret X hW dX9_receive_29 (Nat.le_refl _) (Nat.le_refl _) rfl ⟨by rw [e9], by rw [e9]; exact hR, zc_fr0⟩
    · subst h9
      have h_25 : ¬ (¬ (u 20 4).toInt = 0) := h_25
      refine zr_if_eq (a := 0) (tgt := 28) X dX9_receive_17 (by decide) (by decide) (fun _ => ?_) (fun c9 => absurd c9 (by decide))
      refine lv_iconst (v := 0) X.1 X.2.1 dX9_receive_28 (by decide) ?_
      have e9 : sp_receive 4 q t u = (0, u) := (by unfold sp_receive; simp only [show zn (4 : Int32) = 4 from rfl]; (first | refine (if_pos ⟨by decide, by omega⟩).trans ?_ | refine (if_neg (by first | omega | (intro h9; obtain ⟨-, h9⟩ := h9; omega))).trans ?_); rfl)
      exact zr_zret X hW dX9_receive_29 (Nat.le_refl _) (Nat.le_refl _) rfl ⟨by rw [e9], by rw [e9]; exact hR, zc_fr0⟩
  · subst h8
    subst h9
    refine lv_astore (lv' := [(4, .ref (ad 118)), (0, .ref (ad 100)), (1, .int 5), (2, .int q), (3, .int t)]) X.1 X.2.1 dX9_receive_5 hl (by decide) rfl (fun ls hl => ?_)
    refine lv_aload X.1 X.2.1 dX9_receive_7 (lv_at hl 0 rfl) ?_
    refine lv_ifnull X.1 X.2.1 dX9_receive_9 ?_
    refine lv_aload X.1 X.2.1 dX9_receive_12 (lv_at hl 0 rfl) ?_
    refine zr_callV (As := []) (rest := []) X hW hl.1 md_X8_hasRequest ms_X9_151 dX9_receive_14 (zc_s118 hS) rfl rfl rfl rfl (Nat.le_of_ble_eq_true rfl) ⟨Nat.le_of_ble_eq_true rfl, Nat.le_of_ble_eq_true rfl⟩ ⟨Nat.le_of_ble_eq_true rfl, Nat.le_of_ble_eq_true rfl⟩ (c_X8_hasRequest_3 l Y N0 ad sh g u hS hN) (fun v9 ad9 sh9 g9 H locs hp hW => ?_)
    rcases hp with ⟨rfl, rfl, rfl, ⟨h_37, h9⟩ | ⟨h_37, h9⟩⟩
    · subst h9
      have h_37 : ¬ (u 20 5).toInt = 0 := h_37
      refine zr_if_eq (a := 1) (tgt := 28) X dX9_receive_17 (by decide) (by decide) (fun c9 => absurd c9 (by decide)) (fun _ => ?_)
      refine lv_aload_n X.1 X.2.1 dX9_receive_20 rfl (lv_at hl 1 rfl) ?_
      refine lv_iload_n X.1 X.2.1 dX9_receive_21 rfl (lv_at hl 4 rfl) ?_
      refine zr_callV (As := [.int t]) (rest := []) X hW hl.1 md_X9_sealAt ms_X9_155 dX9_receive_22 (zc_s100 hS) rfl rfl rfl rfl (Nat.le_of_ble_eq_true rfl) ⟨Nat.le_of_ble_eq_true rfl, Nat.le_of_ble_eq_true rfl⟩ ⟨Nat.le_of_ble_eq_true rfl, Nat.le_of_ble_eq_true rfl⟩ (c_X9_sealAt l Y N0 ad sh g u hR hI t) (fun v9 ad9 sh9 g9 H locs hp hW => ?_)
      rcases hp with ⟨rfl, rfl, rfl, ⟨h_38, h8⟩ | ⟨h_38, h8⟩⟩
      · subst h8
        have h_38 : zs_sl u t := h_38
        refine lv_ifnonnull (tgt := 30) X.1 X.2.1 dX9_receive_25 (by decide) ?_
        refine lv_aload_n X.1 X.2.1 dX9_receive_30 rfl (lv_at hl 1 rfl) ?_
        refine lv_iload_n X.1 X.2.1 dX9_receive_31 rfl (lv_at hl 3 rfl) ?_
        refine lv_aload X.1 X.2.1 dX9_receive_32 (lv_at hl 0 rfl) ?_
        refine zr_get (r := 118) (v := .int (u 22 5)) X hW fs_X9_159_7 dX9_receive_34 (zc_s118 hS) rfl rfl (congrArg Value.int (hR.2.2.1 3 (by omega) h_37)) ?_
        refine zr_callV (As := [.int q, .int (u 22 5)]) (rest := []) X hW hl.1 md_X9_openPart ms_X9_162 dX9_receive_37 (zc_s100 hS) rfl rfl rfl rfl (Nat.le_of_ble_eq_true rfl) ⟨Nat.le_of_ble_eq_true rfl, Nat.le_of_ble_eq_true rfl⟩ ⟨Nat.le_of_ble_eq_true rfl, Nat.le_of_ble_eq_true rfl⟩ (c_X9_openPart l Y N0 ad sh g u hR hI q (u 22 5)) (fun v9 ad9 sh9 g9 H locs hp hW => ?_)
        rcases hp with ⟨rfl, rfl, rfl, ⟨h_39, h8⟩ | ⟨h_39, h8⟩⟩
        · subst h8
          have h_39 : zs_op u (u 22 5) q 3 := h_39
          have hq_40 := (hR.2.2.2.2.2.1 (zn q) (by simp only [zi_n]; omega)).2.2.1 h_39.2.1
          refine lv_astore (lv' := [(5, .ref (ad (200 + 2 * (zn q)))), (4, .ref (ad 118)), (0, .ref (ad 100)), (1, .int 5), (2, .int q), (3, .int t)]) X.1 X.2.1 dX9_receive_40 hl (by decide) rfl (fun ls hl => ?_)
          refine lv_aload X.1 X.2.1 dX9_receive_42 (lv_at hl 0 rfl) ?_
          refine lv_ifnull X.1 X.2.1 dX9_receive_44 ?_
          have htg := zI_tg hI 5 (by omega)
          refine lv_aload X.1 X.2.1 dX9_receive_47 (lv_at hl 0 rfl) ?_
          refine zr_get (r := (200 + 2 * (zn q))) (v := .int (u 13 ((zn q)))) X hW fs_X9_166_4 dX9_receive_49 hq_40.1 rfl rfl (congrArg Value.int hq_40.2.2.2.1) ?_
          refine lv_aload X.1 X.2.1 dX9_receive_52 (lv_at hl 1 rfl) ?_
          refine zr_get (r := 118) (v := .int (u 20 5)) X hW fs_X9_171_7 dX9_receive_54 (zc_s118 hS) rfl rfl (congrArg Value.int (hN0 _ _ _ _ rfl)) ?_
          refine zr_icmp_ne (a := (u 13 ((zn q))).toInt) (b := (u 20 5).toInt) (tgt := 73) X dX9_receive_57 (by decide) rfl rfl (fun c_41 => ?_) (fun c_41 => ?_)
          · refine lv_iconst (v := 0) X.1 X.2.1 dX9_receive_73 (by decide) ?_
            have e9 : sp_receive 5 q t u = (0, u) := (by unfold sp_receive; simp only [show zn (5 : Int32) = 5 from rfl]; (first | refine (if_pos ⟨by decide, by omega⟩).trans ?_ | refine (if_neg (by first | omega | (intro h9; obtain ⟨-, h9⟩ := h9; omega))).trans ?_); rfl)
            exact zr_zret X hW dX9_receive_74 (Nat.le_refl _) (Nat.le_refl _) rfl ⟨by rw [e9], by rw [e9]; exact hR, zc_fr0⟩
          · refine lv_aload X.1 X.2.1 dX9_receive_60 (lv_at hl 0 rfl) ?_
            refine zr_get (r := (200 + 2 * (zn q))) (v := .int (u 14 ((zn q)))) X hW fs_X9_174_4 dX9_receive_62 hq_40.1 rfl rfl (congrArg Value.int hq_40.2.2.2.2.1) ?_
            refine lv_aload X.1 X.2.1 dX9_receive_65 (lv_at hl 1 rfl) ?_
            refine zr_get (r := 118) (v := .int (u 21 5)) X hW fs_X9_177_7 dX9_receive_67 (zc_s118 hS) rfl rfl (congrArg Value.int (hN0 _ _ _ _ rfl)) ?_
            refine zr_icmp_eq (a := (u 14 ((zn q))).toInt) (b := (u 21 5).toInt) (tgt := 75) X dX9_receive_70 (by decide) rfl rfl (fun c_42 => ?_) (fun c_42 => ?_)
            · refine lv_aload X.1 X.2.1 dX9_receive_75 (lv_at hl 1 rfl) ?_
              refine lv_iload_n X.1 X.2.1 dX9_receive_77 rfl (lv_at hl 5 rfl) ?_
              refine lv_aload X.1 X.2.1 dX9_receive_78 (lv_at hl 0 rfl) ?_
              refine zr_get (r := (200 + 2 * (zn q))) (v := .int (u 12 ((zn q)))) X hW fs_X9_180_4 dX9_receive_80 hq_40.1 rfl rfl (congrArg Value.int hq_40.2.2.1) ?_
              refine zr_callV (As := [.int t, .int (u 12 ((zn q)))]) (rest := []) X hW hl.1 md_X8_closeRequest ms_X9_183 dX9_receive_83 (zc_s118 hS) rfl rfl rfl rfl (Nat.le_of_ble_eq_true rfl) ⟨Nat.le_of_ble_eq_true rfl, Nat.le_of_ble_eq_true rfl⟩ ⟨Nat.le_of_ble_eq_true rfl, Nat.le_of_ble_eq_true rfl⟩ (c_X8_closeRequest_3 l Y N0 ad sh g u hS hN t (u 12 ((zn q))) (by omega)) (fun v9 ad9 sh9 g9 H locs hp hW => ?_)
              obtain ⟨rfl, rfl, rfl, rfl⟩ := hp
              obtain ⟨g_46, hg_46⟩ : ∃ z : zm_T, z = zm_w g 139 (zn (u 21 5)) t := ⟨_, rfl⟩
              obtain ⟨g_47, hg_47⟩ : ∃ z : zm_T, z = zm_w g_46 140 (zn (u 21 5)) (u 12 ((zn q))) := ⟨_, rfl⟩
              obtain ⟨g_48, hg_48⟩ : ∃ z : zm_T, z = zm_w g_47 118 0 0 := ⟨_, rfl⟩
              rw [← hg_46, ← hg_47, ← hg_48] at hW
              refine lv_iconst (v := 1) X.1 X.2.1 dX9_receive_86 (by decide) ?_
              have e9 : sp_receive 5 q t u = (1, zm_w (zm_w (zm_w u 23 (2 * zn 5 + zn (u 21 (zn 5))) t) 24 (2 * zn 5 + zn (u 21 (zn 5))) (u 12 (zn q))) 20 (zn 5) 0) := if_pos ⟨by decide, by simp only [show zn (5 : Int32) = 5 from rfl]; omega⟩
              have hR9 : zc_R sh g_48 (zm_w (zm_w (zm_w u 23 (2 * zn 5 + zn (u 21 (zn 5))) t) 24 (2 * zn 5 + zn (u 21 (zn 5))) (u 12 (zn q))) 20 (zn 5) 0) := by rw [hg_48, hg_47, hg_46]; exact zc_rcv hR (j := 3) (T := zn (u 21 5)) (by omega) (zi_nl (by omega) (by decide)) t (u 12 (zn q)) (by omega)
              exact zr_zret X hW dX9_receive_87 (Nat.le_refl _) (Nat.le_refl _) rfl ⟨by rw [e9], by rw [e9]; exact hR9, zc_fr1 (fun r h => by rw [hg_48, hg_47, hg_46, zm_wr (by omega), zm_wr (by omega), zm_wr (by omega)])⟩
            · refine lv_iconst (v := 0) X.1 X.2.1 dX9_receive_73 (by decide) ?_
              have e9 : sp_receive 5 q t u = (0, u) := (by unfold sp_receive; simp only [show zn (5 : Int32) = 5 from rfl]; (first | refine (if_pos ⟨by decide, by omega⟩).trans ?_ | refine (if_neg (by first | omega | (intro h9; obtain ⟨-, h9⟩ := h9; omega))).trans ?_); rfl)
              exact zr_zret X hW dX9_receive_74 (Nat.le_refl _) (Nat.le_refl _) rfl ⟨by rw [e9], by rw [e9]; exact hR, zc_fr0⟩
        · subst h8
          have h_39 : ¬ zs_op u (u 22 5) q 3 := h_39
          refine lv_astoreN (lv' := [(5, .null), (4, .ref (ad 118)), (0, .ref (ad 100)), (1, .int 5), (2, .int q), (3, .int t)]) X.1 X.2.1 dX9_receive_40 hl (by decide) rfl (fun ls hl => ?_)
          refine lv_aloadN X.1 X.2.1 dX9_receive_42 (lv_at hl 0 rfl) ?_
          refine lv_ifnullN (tgt := 73) X.1 X.2.1 dX9_receive_44 (by decide) ?_
          refine lv_iconst (v := 0) X.1 X.2.1 dX9_receive_73 (by decide) ?_
          have e9 : sp_receive 5 q t u = (0, u) := (by unfold sp_receive; simp only [show zn (5 : Int32) = 5 from rfl]; (first | refine (if_pos ⟨by decide, by omega⟩).trans ?_ | refine (if_neg (by first | omega | (intro h9; obtain ⟨-, h9⟩ := h9; omega))).trans ?_); rfl)
          exact zr_zret X hW dX9_receive_74 (Nat.le_refl _) (Nat.le_refl _) rfl ⟨by rw [e9], by rw [e9]; exact hR, zc_fr0⟩
      · subst h8
        have h_38 : ¬ zs_sl u t := h_38
        refine lv_ifnonnullN X.1 X.2.1 dX9_receive_25 ?_
        refine lv_iconst (v := 0) X.1 X.2.1 dX9_receive_28 (by decide) ?_
        have e9 : sp_receive 5 q t u = (0, u) := (by unfold sp_receive; simp only [show zn (5 : Int32) = 5 from rfl]; (first | refine (if_pos ⟨by decide, by omega⟩).trans ?_ | refine (if_neg (by first | omega | (intro h9; obtain ⟨-, h9⟩ := h9; omega))).trans ?_); rfl)
        exact zr_zret X hW dX9_receive_29 (Nat.le_refl _) (Nat.le_refl _) rfl ⟨by rw [e9], by rw [e9]; exact hR, zc_fr0⟩
    · subst h9
      have h_37 : ¬ (¬ (u 20 5).toInt = 0) := h_37
      refine zr_if_eq (a := 0) (tgt := 28) X dX9_receive_17 (by decide) (by decide) (fun _ => ?_) (fun c9 => absurd c9 (by decide))
      refine lv_iconst (v := 0) X.1 X.2.1 dX9_receive_28 (by decide) ?_
      have e9 : sp_receive 5 q t u = (0, u) := (by unfold sp_receive; simp only [show zn (5 : Int32) = 5 from rfl]; (first | refine (if_pos ⟨by decide, by omega⟩).trans ?_ | refine (if_neg (by first | omega | (intro h9; obtain ⟨-, h9⟩ := h9; omega))).trans ?_); rfl)
      exact zr_zret X hW dX9_receive_29 (Nat.le_refl _) (Nat.le_refl _) rfl ⟨by rw [e9], by rw [e9]; exact hR, zc_fr0⟩
  · subst h8
    have h_49 : ¬ zs_us a := h9
    refine lv_astoreN (lv' := [(4, .null), (0, .ref (ad 100)), (1, .int a), (2, .int q), (3, .int t)]) X.1 X.2.1 dX9_receive_5 hl (by decide) rfl (fun ls hl => ?_)
    refine lv_aloadN X.1 X.2.1 dX9_receive_7 (lv_at hl 0 rfl) ?_
    refine lv_ifnullN (tgt := 28) X.1 X.2.1 dX9_receive_9 (by decide) ?_
    refine lv_iconst (v := 0) X.1 X.2.1 dX9_receive_28 (by decide) ?_
    have e9 : sp_receive a q t u = (0, u) := (by unfold sp_receive; (first | refine (if_pos ⟨by decide, by omega⟩).trans ?_ | refine (if_neg (by first | omega | (intro h9; obtain ⟨-, h9⟩ := h9; omega))).trans ?_); rfl)
    exact zr_zret X hW dX9_receive_29 (Nat.le_refl _) (Nat.le_refl _) rfl ⟨by rw [e9], by rw [e9]; exact hR, zc_fr0⟩
