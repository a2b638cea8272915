/-- a call of the class: its answer and the memory behind it are q's; what isn't the class's stays -/
def zc_fr (ad : Nat → Nat) (sh : Nat → Option zw_Sh) (g : zm_T) (ad' : Nat → Nat) (sh' : Nat → Option zw_Sh) (g' : zm_T) : Prop := (∀ r, r ≤ 100 → ad' r = ad r) ∧ ∀ r, r < 100 → sh' r = sh r ∧ g' r = g r
def zc_Po (ad : Nat → Nat) (sh : Nat → Option zw_Sh) (g : zm_T) (q : Int32 × zm_T) : zw_Po := fun v ad' sh' g' => v = some (.int q.1) ∧ zc_R sh' g' q.2 ∧ zc_fr ad sh g ad' sh' g'
theorem zc_fr0 {ad : Nat → Nat} {sh : Nat → Option zw_Sh} {g : zm_T} : zc_fr ad sh g ad sh g := ⟨fun _ _ => rfl, fun _ _ => ⟨rfl, rfl⟩⟩
theorem zc_fr1 {ad : Nat → Nat} {sh : Nat → Option zw_Sh} {g g' : zm_T} (h : ∀ r, r < 100 → g' r = g r) : zc_fr ad sh g ad sh g' := ⟨fun _ _ => rfl, fun r hr => ⟨rfl, h r hr⟩⟩
theorem zc_Rof {sh : Nat → Option zw_Sh} {g u g' u' : zm_T} (hR : zc_R sh g u) (hN : zc_N g' u') (hu : ∀ r i : Nat, ((9 ≤ r ∧ r ≤ 18) ∨ r = 20 ∨ r = 22 ∨ r = 23 ∨ r = 24 ∨ r = 29 ∨ (r = 0 ∧ (i = 8 ∨ i = 28))) → u' r i = u r i) (hg : ∀ r : Nat, (200 ≤ r ∨ r = 134 ∨ r = 136 ∨ r = 138 ∨ r = 140) → g' r = g r) (hg2 : ∀ j : Nat, j < 4 → g' (115 + j) 2 = g (115 + j) 2) : zc_R sh g' u' := by
  obtain ⟨h1, h2, h3, h4, h5, h6, h7, cf, h8, h9⟩ := hR
  have e8 : u' 0 8 = u 0 8 := hu 0 8 (by omega)
  have e28 : u' 0 28 = u 0 28 := hu 0 28 (by omega)
  refine ⟨h1, hN, ?_, ?_, by rw [e8]; exact h5, ?_, by rw [e8]; exact h7, cf, h8, ?_⟩
  · intro j hj hn
    rw [hu 20 _ (by omega)] at hn
    rw [hg2 j hj, hu 22 _ (by omega)]
    exact h3 j hj hn
  · intro j t hj ht hn
    rw [hu 23 _ (by omega)] at hn
    rw [hg _ (by omega), hu 24 _ (by omega)]
    exact h4 j t hj ht hn
  · intro i hi
    rw [e8] at hi
    have q := h6 i hi
    unfold zc_sl at q ⊢
    rw [hu 9 i (by omega), hu 10 i (by omega), hu 11 i (by omega), hu 12 i (by omega), hu 13 i (by omega), hu 14 i (by omega), hu 15 i (by omega), hu 16 i (by omega), hu 17 i (by omega), hu 18 i (by omega), hg (200 + 2 * i) (by omega), hg (201 + 2 * i) (by omega)]
    exact q
  · intro j hj
    rw [e28] at hj
    rw [h9 j hj, hu 29 j (by omega)]

set_option maxHeartbeats 4000000 in
set_option maxRecDepth 100000 in
theorem c_X9_remove (l : Launch) (Y : zw_Y) (N0 : Nat) (ad : Nat → Nat) (sh : Nat → Option zw_Sh) (g u : zm_T) (hR : zc_R sh g u) (hI : zm_I u) (a : Int32) : zw_Met l Y N0 yX9_remove cX9_remove 2 (some .boolean) 2 41 0 0 ad sh g [.ref (ad 100), .int a] (zc_Po ad sh g (sp_remove a u)) := by
  refine zw_meth (by decide) (Nat.le_of_ble_eq_true rfl) ?_
  intro p e s m below meth c ls X hnm hl hW
  have hl : lv_has ls 2 [(0, .ref (ad 100)), (1, .int a)] := hl
  have hS := hR.1
  have hN0 := hR.2.1
  have hN := hR.2.1
  have hB : ∀ i : Nat, i < 12 → -1 ≤ (u 5 i).toInt := fun i hi => (zI_bk hI i hi).1
  have hT : ∀ i : Nat, i < 12 → -1 ≤ (u 23 i).toInt := fun i hi => (zI_tk hI i hi).1
  refine lv_aload_n X.1 X.2.1 dX9_remove_0 rfl (lv_at hl 0 rfl) ?_
  refine zr_get (r := 100) (v := .ref (ad 103)) X hW fs_X9_19_8 dX9_remove_1 (zc_s100 hS) rfl rfl rfl ?_
  refine lv_iload_n X.1 X.2.1 dX9_remove_4 rfl (lv_at hl 1 rfl) ?_
  refine zr_callV (As := [.int a]) (rest := []) X hW hl.1 md_X0_holds ms_X9_88 dX9_remove_5 (zc_s103 hS) rfl rfl rfl rfl (Nat.le_of_ble_eq_true rfl) ⟨Nat.le_of_ble_eq_true rfl, Nat.le_of_ble_eq_true rfl⟩ ⟨Nat.le_of_ble_eq_true rfl, Nat.le_of_ble_eq_true rfl⟩ (c_X0_holds_b l Y N0 ad sh g u hS hN hB a) (fun v9 ad9 sh9 g9 H locs hp hW => ?_)
  rcases hp with ⟨rfl, rfl, rfl, ⟨h_1, h9⟩ | ⟨h_1, h9⟩⟩
  · subst h9
    have h_1 : zs_bk u a := h_1
    refine zr_if_ne (a := 1) (tgt := 13) X dX9_remove_8 (by decide) (by decide) (fun _ => ?_) (fun c9 => absurd c9 (by decide))
    refine lv_aload_n X.1 X.2.1 dX9_remove_13 rfl (lv_at hl 0 rfl) ?_
    refine zr_get (r := 100) (v := .ref (ad 103)) X hW fs_X9_19_8 dX9_remove_14 (zc_s100 hS) rfl rfl rfl ?_
    refine lv_iload_n X.1 X.2.1 dX9_remove_17 rfl (lv_at hl 1 rfl) ?_
    refine zr_callV (As := [.int a]) (rest := []) X hW hl.1 md_X0_strike ms_X9_91 dX9_remove_18 (zc_s103 hS) rfl rfl rfl rfl (Nat.le_of_ble_eq_true rfl) ⟨Nat.le_of_ble_eq_true rfl, Nat.le_of_ble_eq_true rfl⟩ ⟨Nat.le_of_ble_eq_true rfl, Nat.le_of_ble_eq_true rfl⟩ (c_X0_strike l Y N0 ad sh g hS a (by omega)) (fun v9 ad9 sh9 g9 H locs hp hW => ?_)
    obtain ⟨rfl, rfl, rfl, rfl⟩ := hp
    obtain ⟨g_2, hg_2⟩ : ∃ z : zm_T, z = zm_w g 109 (zn a) ((-1)) := ⟨_, rfl⟩
    rw [← hg_2] at hW
    obtain ⟨u_3, hu_3⟩ : ∃ z : zm_T, z = zm_w u 5 (zn a) ((-1)) := ⟨_, rfl⟩
    have hN : zc_N g_2 u_3 := by rw [hg_2, hu_3]; exact zc_Nw hN (zc_l109 (by simp only [zi_n]; omega)) _
    refine lv_iconst (v := 1) X.1 X.2.1 dX9_remove_21 (by decide) ?_
    have e9 : sp_remove a u = (1, u_3) := (by rw [hu_3]; unfold sp_remove; (repeat (first | refine (if_pos (by omega)).trans ?_ | refine (if_neg (by omega)).trans ?_)); rfl)
    have hR9 : zc_R sh g_2 u_3 := zc_Rof hR hN (fun r i h => by rw [hu_3, zm_wn _ _ (by omega)]) (fun r h => by rw [hg_2, zm_wr (by omega)]) (fun j hj => by rw [hg_2, zm_wn _ _ (by omega)])
    exact zr_zret X hW dX9_remove_22 (Nat.le_refl _) (Nat.le_refl _) rfl ⟨by rw [e9], by rw [e9]; exact hR9, zc_fr1 (fun r h => by rw [hg_2, zm_wr (by omega)])⟩
  · subst h9
    have h_1 : ¬ (zs_bk u a) := h_1
    refine zr_if_ne (a := 0) (tgt := 13) X dX9_remove_8 (by decide) (by decide) (fun c9 => absurd c9 (by decide)) (fun _ => ?_)
    refine lv_iconst (v := 0) X.1 X.2.1 dX9_remove_11 (by decide) ?_
    have e9 : sp_remove a u = (0, u) := (by unfold sp_remove; (repeat (first | refine (if_pos (by omega)).trans ?_ | refine (if_neg (by omega)).trans ?_)); rfl)
    exact zr_zret X hW dX9_remove_12 (Nat.le_refl _) (Nat.le_refl _) rfl ⟨by rw [e9], by rw [e9]; exact hR, zc_fr0⟩

set_option maxHeartbeats 4000000 in
set_option maxRecDepth 100000 in
theorem c_X9_limit (l : Launch) (Y : zw_Y) (N0 : Nat) (ad : Nat → Nat) (sh : Nat → Option zw_Sh) (g u : zm_T) (hR : zc_R sh g u) (hI : zm_I u) (a n : Int32) : zw_Met l Y N0 yX9_limit cX9_limit 3 (some .boolean) 2 41 0 0 ad sh g [.ref (ad 100), .int a, .int n] (zc_Po ad sh g (sp_limit a n u)) := by
  refine zw_meth (by decide) (Nat.le_of_ble_eq_true rfl) ?_
  intro p e s m below meth c ls X hnm hl hW
  have hl : lv_has ls 3 [(0, .ref (ad 100)), (1, .int a), (2, .int n)] := hl
  have hS := hR.1
  have hN0 := hR.2.1
  have hN := hR.2.1
  have hB : ∀ i : Nat, i < 12 → -1 ≤ (u 5 i).toInt := fun i hi => (zI_bk hI i hi).1
  have hT : ∀ i : Nat, i < 12 → -1 ≤ (u 23 i).toInt := fun i hi => (zI_tk hI i hi).1
  refine lv_aload_n X.1 X.2.1 dX9_limit_0 rfl (lv_at hl 0 rfl) ?_
  refine zr_get (r := 100) (v := .ref (ad 103)) X hW fs_X9_19_8 dX9_limit_1 (zc_s100 hS) rfl rfl rfl ?_
  refine lv_iload_n X.1 X.2.1 dX9_limit_4 rfl (lv_at hl 1 rfl) ?_
  refine zr_callV (As := [.int a]) (rest := []) X hW hl.1 md_X0_holds ms_X9_88 dX9_limit_5 (zc_s103 hS) rfl rfl rfl rfl (Nat.le_of_ble_eq_true rfl) ⟨Nat.le_of_ble_eq_true rfl, Nat.le_of_ble_eq_true rfl⟩ ⟨Nat.le_of_ble_eq_true rfl, Nat.le_of_ble_eq_true rfl⟩ (c_X0_holds_b l Y N0 ad sh g u hS hN hB a) (fun v9 ad9 sh9 g9 H locs hp hW => ?_)
  rcases hp with ⟨rfl, rfl, rfl, ⟨h_1, h9⟩ | ⟨h_1, h9⟩⟩
  · subst h9
    have h_1 : zs_bk u a := h_1
    refine zr_if_eq (a := 1) (tgt := 23) X dX9_limit_8 (by decide) (by decide) (fun c9 => absurd c9 (by decide)) (fun _ => ?_)
    refine lv_iload_n X.1 X.2.1 dX9_limit_11 rfl (lv_at hl 2 rfl) ?_
    refine lv_iconst (v := 1) X.1 X.2.1 dX9_limit_12 (by decide) ?_
    refine zr_icmp_lt (a := (n).toInt) (b := 1) (tgt := 23) X dX9_limit_13 (by decide) rfl (by decide) (fun c_2 => ?_) (fun c_2 => ?_)
    · refine lv_iconst (v := 0) X.1 X.2.1 dX9_limit_23 (by decide) ?_
      have e9 : sp_limit a n u = (0, u) := (by unfold sp_limit; (repeat (first | refine (if_pos (by omega)).trans ?_ | refine (if_neg (by omega)).trans ?_)); rfl)
      exact zr_zret X hW dX9_limit_24 (Nat.le_refl _) (Nat.le_refl _) rfl ⟨by rw [e9], by rw [e9]; exact hR, zc_fr0⟩
    · refine lv_iload_n X.1 X.2.1 dX9_limit_16 rfl (lv_at hl 2 rfl) ?_
      refine lv_sipush (v := 1000) X.1 X.2.1 dX9_limit_17 (by decide) ?_
      refine zr_icmp_le (a := (n).toInt) (b := 1000) (tgt := 25) X dX9_limit_20 (by decide) rfl (by decide) (fun c_3 => ?_) (fun c_3 => ?_)
      · refine lv_aload_n X.1 X.2.1 dX9_limit_25 rfl (lv_at hl 0 rfl) ?_
        refine zr_get (r := 100) (v := .ref (ad 103)) X hW fs_X9_19_8 dX9_limit_26 (zc_s100 hS) rfl rfl rfl ?_
        refine zr_get (r := 103) (v := .ref (ad 110)) X hW fs_X9_95_0 dX9_limit_29 (zc_s103 hS) rfl rfl rfl ?_
        refine lv_iload_n X.1 X.2.1 dX9_limit_32 rfl (lv_at hl 1 rfl) ?_
        refine lv_iload_n X.1 X.2.1 dX9_limit_33 rfl (lv_at hl 2 rfl) ?_
        refine zr_iast (r := 110) X hW dX9_limit_34 (zc_s110 hS) rfl rfl (zi_vp (by omega)) (fun H locs hW => ?_)
        obtain ⟨g_4, hg_4⟩ : ∃ z : zm_T, z = zm_w g 110 (zn a) n := ⟨_, rfl⟩
        have hW : zw_St Y N0 ad sh g_4 s H locs := by rw [hg_4]; exact hW
        obtain ⟨u_5, hu_5⟩ : ∃ z : zm_T, z = zm_w u 6 (zn a) n := ⟨_, rfl⟩
        have hN : zc_N g_4 u_5 := by rw [hg_4, hu_5]; exact zc_Nw hN (zc_l110 (by simp only [zi_n]; omega)) _
        refine lv_iconst (v := 1) X.1 X.2.1 dX9_limit_35 (by decide) ?_
        have e9 : sp_limit a n u = (1, u_5) := (by rw [hu_5]; unfold sp_limit; (repeat (first | refine (if_pos (by omega)).trans ?_ | refine (if_neg (by omega)).trans ?_)); rfl)
        have hR9 : zc_R sh g_4 u_5 := zc_Rof hR hN (fun r i h => by rw [hu_5, zm_wn _ _ (by omega)]) (fun r h => by rw [hg_4, zm_wr (by omega)]) (fun j hj => by rw [hg_4, zm_wn _ _ (by omega)])
        exact zr_zret X hW dX9_limit_36 (Nat.le_refl _) (Nat.le_refl _) rfl ⟨by rw [e9], by rw [e9]; exact hR9, zc_fr1 (fun r h => by rw [hg_4, zm_wr (by omega)])⟩
      · refine lv_iconst (v := 0) X.1 X.2.1 dX9_limit_23 (by decide) ?_
        have e9 : sp_limit a n u = (0, u) := (by unfold sp_limit; (repeat (first | refine (if_pos (by omega)).trans ?_ | refine (if_neg (by omega)).trans ?_)); rfl)
        exact zr_zret X hW dX9_limit_24 (Nat.le_refl _) (Nat.le_refl _) rfl ⟨by rw [e9], by rw [e9]; exact hR, zc_fr0⟩
  · subst h9
    have h_1 : ¬ (zs_bk u a) := h_1
    refine zr_if_eq (a := 0) (tgt := 23) X dX9_limit_8 (by decide) (by decide) (fun _ => ?_) (fun c9 => absurd c9 (by decide))
    refine lv_iconst (v := 0) X.1 X.2.1 dX9_limit_23 (by decide) ?_
    have e9 : sp_limit a n u = (0, u) := (by unfold sp_limit; (repeat (first | refine (if_pos (by omega)).trans ?_ | refine (if_neg (by omega)).trans ?_)); rfl)
    exact zr_zret X hW dX9_limit_24 (Nat.le_refl _) (Nat.le_refl _) rfl ⟨by rw [e9], by rw [e9]; exact hR, zc_fr0⟩

set_option maxHeartbeats 4000000 in
set_option maxRecDepth 100000 in
theorem c_X9_tick (l : Launch) (Y : zw_Y) (N0 : Nat) (ad : Nat → Nat) (sh : Nat → Option zw_Sh) (g u : zm_T) (hR : zc_R sh g u) (hI : zm_I u) (a n : Int32) : zw_Met l Y N0 yX9_tick cX9_tick 3 (some .int) 1 20 0 0 ad sh g [.ref (ad 100), .int a, .int n] (zc_Po ad sh g (sp_tick a n u)) := by
  refine zw_meth (by decide) (Nat.le_of_ble_eq_true rfl) ?_
  intro p e s m below meth c ls X hnm hl hW
  have hl : lv_has ls 3 [(0, .ref (ad 100)), (1, .int a), (2, .int n)] := hl
  have hS := hR.1
  have hN0 := hR.2.1
  have hN := hR.2.1
  have hB : ∀ i : Nat, i < 12 → -1 ≤ (u 5 i).toInt := fun i hi => (zI_bk hI i hi).1
  have hT : ∀ i : Nat, i < 12 → -1 ≤ (u 23 i).toInt := fun i hi => (zI_tk hI i hi).1
  refine lv_iload_n X.1 X.2.1 dX9_tick_0 rfl (lv_at hl 1 rfl) ?_
  refine zr_callS (As := [.int a]) (rest := []) X hW hl.1 md_X9_isPrincipal ms_X9_72 dX9_tick_1 rfl rfl (Nat.le_of_ble_eq_true rfl) ⟨Nat.le_of_ble_eq_true rfl, Nat.le_of_ble_eq_true rfl⟩ ⟨Nat.le_of_ble_eq_true rfl, Nat.le_of_ble_eq_true rfl⟩ (c_X9_isPrincipal l Y N0 ad sh g a) (fun v9 ad9 sh9 g9 H locs hp hW => ?_)
  rcases hp with ⟨rfl, rfl, rfl, ⟨h_1, h9⟩ | ⟨h_1, h9⟩⟩
  · subst h9
    have h_1 : zi_in a 0 5 := h_1
    refine zr_if_eq (a := 1) (tgt := 19) X dX9_tick_4 (by decide) (by decide) (fun c9 => absurd c9 (by decide)) (fun _ => ?_)
    refine lv_iload_n X.1 X.2.1 dX9_tick_7 rfl (lv_at hl 2 rfl) ?_
    refine lv_iconst (v := 1) X.1 X.2.1 dX9_tick_8 (by decide) ?_
    refine zr_icmp_lt (a := (n).toInt) (b := 1) (tgt := 19) X dX9_tick_9 (by decide) rfl (by decide) (fun c_2 => ?_) (fun c_2 => ?_)
    · refine lv_iconst (v := (-1)) X.1 X.2.1 dX9_tick_19 (by decide) ?_
      have e9 : sp_tick a n u = ((-1), u) := (by unfold sp_tick; (repeat (first | refine (if_pos (by omega)).trans ?_ | refine (if_neg (by omega)).trans ?_)); rfl)
      exact zr_iret X hW dX9_tick_20 (Nat.le_refl _) (Nat.le_refl _) ⟨by rw [e9], by rw [e9]; exact hR, zc_fr0⟩
    · refine lv_iload_n X.1 X.2.1 dX9_tick_12 rfl (lv_at hl 2 rfl) ?_
      refine lv_sipush (v := 1000) X.1 X.2.1 dX9_tick_13 (by decide) ?_
      refine zr_icmp_le (a := (n).toInt) (b := 1000) (tgt := 21) X dX9_tick_16 (by decide) rfl (by decide) (fun c_3 => ?_) (fun c_3 => ?_)
      · refine lv_aload_n X.1 X.2.1 dX9_tick_21 rfl (lv_at hl 0 rfl) ?_
        refine zr_get (r := 100) (v := .ref (ad 101)) X hW fs_X9_9_8 dX9_tick_22 (zc_s100 hS) rfl rfl rfl ?_
        refine lv_iload_n X.1 X.2.1 dX9_tick_25 rfl (lv_at hl 1 rfl) ?_
        refine lv_dup2_11 X.1 X.2.1 dX9_tick_26 rfl rfl ?_
        refine zr_iald (r := 101) (v := u 1 (zn a)) X hW dX9_tick_27 (zc_s101 hS) rfl rfl (zi_vp (by omega)) (hN0 _ _ _ _ (zc_l101 (by simp only [zi_n]; omega))) ?_
        refine lv_iload_n X.1 X.2.1 dX9_tick_28 rfl (lv_at hl 2 rfl) ?_
        refine lv_iadd X.1 X.2.1 dX9_tick_29 ?_
        refine zr_iast (r := 101) X hW dX9_tick_30 (zc_s101 hS) rfl rfl (zi_vp (by omega)) (fun H locs hW => ?_)
        obtain ⟨g_4, hg_4⟩ : ∃ z : zm_T, z = zm_w g 101 (zn a) ((u 1 (zn a)) + n) := ⟨_, rfl⟩
        have hW : zw_St Y N0 ad sh g_4 s H locs := by rw [hg_4]; exact hW
        obtain ⟨u_5, hu_5⟩ : ∃ z : zm_T, z = zm_w u 1 (zn a) ((u 1 (zn a)) + n) := ⟨_, rfl⟩
        have hN : zc_N g_4 u_5 := by rw [hg_4, hu_5]; exact zc_Nw hN (zc_l101 (by simp only [zi_n]; omega)) _
        refine lv_aload_n X.1 X.2.1 dX9_tick_31 rfl (lv_at hl 0 rfl) ?_
        refine zr_get (r := 100) (v := .ref (ad 101)) X hW fs_X9_9_8 dX9_tick_32 (zc_s100 hS) rfl rfl rfl ?_
        refine lv_iload_n X.1 X.2.1 dX9_tick_35 rfl (lv_at hl 1 rfl) ?_
        refine zr_iald (r := 101) (v := (u 1 (zn a)) + n) X hW dX9_tick_36 (zc_s101 hS) rfl rfl (zi_vp (by omega)) (show g_4 101 (zn a) = (u 1 (zn a)) + n from (by rw [hg_4]; exact zm_ws _ _ _ _)) ?_
        have e9 : sp_tick a n u = ((u 1 (zn a)) + n, u_5) := (by rw [hu_5]; unfold sp_tick; (repeat (first | refine (if_pos (by omega)).trans ?_ | refine (if_neg (by omega)).trans ?_)); rfl)
        have hR9 : zc_R sh g_4 u_5 := zc_Rof hR hN (fun r i h => by rw [hu_5, zm_wn _ _ (by omega)]) (fun r h => by rw [hg_4, zm_wr (by omega)]) (fun j hj => by rw [hg_4, zm_wn _ _ (by omega)])
        exact zr_iret X hW dX9_tick_37 (Nat.le_refl _) (Nat.le_refl _) ⟨by rw [e9], by rw [e9]; exact hR9, zc_fr1 (fun r h => by rw [hg_4, zm_wr (by omega)])⟩
      · refine lv_iconst (v := (-1)) X.1 X.2.1 dX9_tick_19 (by decide) ?_
        have e9 : sp_tick a n u = ((-1), u) := (by unfold sp_tick; (repeat (first | refine (if_pos (by omega)).trans ?_ | refine (if_neg (by omega)).trans ?_)); rfl)
        exact zr_iret X hW dX9_tick_20 (Nat.le_refl _) (Nat.le_refl _) ⟨by rw [e9], by rw [e9]; exact hR, zc_fr0⟩
  · subst h9
    have h_1 : ¬ (zi_in a 0 5) := h_1
    refine zr_if_eq (a := 0) (tgt := 19) X dX9_tick_4 (by decide) (by decide) (fun _ => ?_) (fun c9 => absurd c9 (by decide))
    refine lv_iconst (v := (-1)) X.1 X.2.1 dX9_tick_19 (by decide) ?_
    have e9 : sp_tick a n u = ((-1), u) := (by unfold sp_tick; (repeat (first | refine (if_pos (by omega)).trans ?_ | refine (if_neg (by omega)).trans ?_)); rfl)
    exact zr_iret X hW dX9_tick_20 (Nat.le_refl _) (Nat.le_refl _) ⟨by rw [e9], by rw [e9]; exact hR, zc_fr0⟩

set_option maxHeartbeats 4000000 in
set_option maxRecDepth 100000 in
theorem c_X9_answer (l : Launch) (Y : zw_Y) (N0 : Nat) (ad : Nat → Nat) (sh : Nat → Option zw_Sh) (g u : zm_T) (hR : zc_R sh g u) (hI : zm_I u) : zw_Met l Y N0 yX9_answer cX9_answer 1 (some .int) 0 0 0 0 ad sh g [.ref (ad 100)] (zc_Po ad sh g (sp_answer u)) := by
  refine zw_meth (by decide) (Nat.le_of_ble_eq_true rfl) ?_
  intro p e s m below meth c ls X hnm hl hW
  have hl : lv_has ls 1 [(0, .ref (ad 100))] := hl
  have hS := hR.1
  have hN0 := hR.2.1
  have hN := hR.2.1
  have hB : ∀ i : Nat, i < 12 → -1 ≤ (u 5 i).toInt := fun i hi => (zI_bk hI i hi).1
  have hT : ∀ i : Nat, i < 12 → -1 ≤ (u 23 i).toInt := fun i hi => (zI_tk hI i hi).1
  refine lv_aload_n X.1 X.2.1 dX9_answer_0 rfl (lv_at hl 0 rfl) ?_
  refine zr_get (r := 100) (v := .ref (ad 106)) X hW fs_X9_35_8 dX9_answer_1 (zc_s100 hS) rfl rfl rfl ?_
  refine zr_get (r := 106) (v := .int (u 0 27)) X hW fs_X9_264_2 dX9_answer_4 (zc_s106 hS) rfl rfl (congrArg Value.int (hN0 _ _ _ _ rfl)) ?_
  have e9 : sp_answer  u = (u 0 27, u) := (by unfold sp_answer; (repeat (first | refine (if_pos (by omega)).trans ?_ | refine (if_neg (by omega)).trans ?_)); rfl)
  exact zr_iret X hW dX9_answer_7 (Nat.le_refl _) (Nat.le_refl _) ⟨by rw [e9], by rw [e9]; exact hR, zc_fr0⟩
