set_option maxHeartbeats 4000000 in
set_option maxRecDepth 100000 in
theorem c_X0_holds_b (l : Launch) (Y : zw_Y) (N0 : Nat) (ad : Nat → Nat) (sh : Nat → Option zw_Sh) (g u : zm_T) (hS : zc_S sh) (hN : zc_N g u) (hB : ∀ i : Nat, i < 12 → -1 ≤ (u 5 i).toInt) (a : Int32) : zw_Met l Y N0 yX0_holds cX0_holds 2 (some .boolean) 1 20 0 0 ad sh g [.ref (ad 103), .int a] (zp_B ad sh g (zs_bk u a)) := by
  refine zw_meth (by decide) (Nat.le_of_ble_eq_true rfl) ?_
  intro p e s m below meth c ls X hnm hl hW
  have hl : lv_has ls 2 [(0, .ref (ad 103)), (1, .int a)] := hl
  have hN0 := hN
  refine lv_iload_n X.1 X.2.1 dX0_holds_0 rfl (lv_at hl 1 rfl) ?_
  refine zr_callSN (As := [.int a]) (rest := []) X hW hl.1 md_X9_isPrincipal ms_X0_23 dX0_holds_1 rfl rfl (Nat.le_of_ble_eq_true rfl) ⟨Nat.le_of_ble_eq_true rfl, Nat.le_of_ble_eq_true rfl⟩ ⟨Nat.le_of_ble_eq_true rfl, Nat.le_of_ble_eq_true rfl⟩ (c_X9_isPrincipal l Y N0 ad sh g a) (fun v9 ad9 sh9 g9 H locs hp hW => ?_)
  rcases hp with ⟨rfl, rfl, rfl, ⟨h_1, h9⟩ | ⟨h_1, h9⟩⟩
  · subst h9
    have h_1 : zi_in a 0 5 := h_1
    refine zr_if_eq (a := 1) (tgt := 21) X dX0_holds_4 (by decide) (by decide) (fun c9 => absurd c9 (by decide)) (fun _ => ?_)
    refine lv_aload_n X.1 X.2.1 dX0_holds_7 rfl (lv_at hl 0 rfl) ?_
    refine zr_get (r := 103) (v := .ref (ad 109)) X hW fs_X0_9_0 dX0_holds_8 (zc_s103 hS) rfl rfl rfl ?_
    refine lv_iload_n X.1 X.2.1 dX0_holds_11 rfl (lv_at hl 1 rfl) ?_
    refine zr_iald (r := 109) (v := u 5 (zn a)) X hW dX0_holds_12 (zc_s109 hS) rfl rfl (zi_vp (by omega)) (hN0 _ _ _ _ (zc_l109 (zi_nl (by omega) (by decide)))) ?_
    refine lv_iconst (v := (-1)) X.1 X.2.1 dX0_holds_13 (by decide) ?_
    refine zr_icmp_eq (a := (u 5 (zn a)).toInt) (b := (-1)) (tgt := 21) X dX0_holds_14 (by decide) rfl (by decide) (fun c_2 => ?_) (fun c_2 => ?_)
    · refine lv_iconst (v := 0) X.1 X.2.1 dX0_holds_21 (by decide) ?_
      exact zr_zret X hW dX0_holds_22 (Nat.le_refl _) (Nat.le_refl _) rfl ⟨rfl, rfl, rfl, Or.inr ⟨by first | omega | (have h8 := hB (zn a) (by simp only [zi_n]; omega); omega), rfl⟩⟩
    · refine lv_iconst (v := 1) X.1 X.2.1 dX0_holds_17 (by decide) ?_
      refine lv_goto (tgt := 22) X.1 X.2.1 dX0_holds_18 (by decide) ?_
      exact zr_zret X hW dX0_holds_22 (Nat.le_refl _) (Nat.le_refl _) rfl ⟨rfl, rfl, rfl, Or.inl ⟨by first | omega | (have h8 := hB (zn a) (by simp only [zi_n]; omega); omega), rfl⟩⟩
  · subst h9
    have h_1 : ¬ (zi_in a 0 5) := h_1
    refine zr_if_eq (a := 0) (tgt := 21) X dX0_holds_4 (by decide) (by decide) (fun _ => ?_) (fun c9 => absurd c9 (by decide))
    refine lv_iconst (v := 0) X.1 X.2.1 dX0_holds_21 (by decide) ?_
    exact zr_zret X hW dX0_holds_22 (Nat.le_refl _) (Nat.le_refl _) rfl ⟨rfl, rfl, rfl, Or.inr ⟨by first | omega | (have h8 := hB (zn a) (by simp only [zi_n]; omega); omega), rfl⟩⟩

set_option maxHeartbeats 4000000 in
set_option maxRecDepth 100000 in
theorem c_X0_holds_s (l : Launch) (Y : zw_Y) (N0 : Nat) (ad : Nat → Nat) (sh : Nat → Option zw_Sh) (g u : zm_T) (hS : zc_S sh) (hN : zc_N g u) (hB : ∀ i : Nat, i < 12 → -1 ≤ (u 5 i).toInt) (a : Int32) : zw_Met l Y N0 yX0_holds cX0_holds 2 (some .boolean) 1 20 0 0 ad sh g [.ref (ad 104), .int a] (zp_B ad sh g (zi_in a 0 5 ∧ 0 ≤ (u 5 (6 + zn a)).toInt)) := by
  refine zw_meth (by decide) (Nat.le_of_ble_eq_true rfl) ?_
  intro p e s m below meth c ls X hnm hl hW
  have hl : lv_has ls 2 [(0, .ref (ad 104)), (1, .int a)] := hl
  have hN0 := hN
  refine lv_iload_n X.1 X.2.1 dX0_holds_0 rfl (lv_at hl 1 rfl) ?_
  refine zr_callSN (As := [.int a]) (rest := []) X hW hl.1 md_X9_isPrincipal ms_X0_23 dX0_holds_1 rfl rfl (Nat.le_of_ble_eq_true rfl) ⟨Nat.le_of_ble_eq_true rfl, Nat.le_of_ble_eq_true rfl⟩ ⟨Nat.le_of_ble_eq_true rfl, Nat.le_of_ble_eq_true rfl⟩ (c_X9_isPrincipal l Y N0 ad sh g a) (fun v9 ad9 sh9 g9 H locs hp hW => ?_)
  rcases hp with ⟨rfl, rfl, rfl, ⟨h_1, h9⟩ | ⟨h_1, h9⟩⟩
  · subst h9
    have h_1 : zi_in a 0 5 := h_1
    refine zr_if_eq (a := 1) (tgt := 21) X dX0_holds_4 (by decide) (by decide) (fun c9 => absurd c9 (by decide)) (fun _ => ?_)
    refine lv_aload_n X.1 X.2.1 dX0_holds_7 rfl (lv_at hl 0 rfl) ?_
    refine zr_get (r := 104) (v := .ref (ad 112)) X hW fs_X0_9_0 dX0_holds_8 (zc_s104 hS) rfl rfl rfl ?_
    refine lv_iload_n X.1 X.2.1 dX0_holds_11 rfl (lv_at hl 1 rfl) ?_
    refine zr_iald (r := 112) (v := u 5 (6 + (zn a))) X hW dX0_holds_12 (zc_s112 hS) rfl rfl (zi_vp (by omega)) (hN0 _ _ _ _ (zc_l112 (zi_nl (by omega) (by decide)))) ?_
    refine lv_iconst (v := (-1)) X.1 X.2.1 dX0_holds_13 (by decide) ?_
    refine zr_icmp_eq (a := (u 5 (6 + (zn a))).toInt) (b := (-1)) (tgt := 21) X dX0_holds_14 (by decide) rfl (by decide) (fun c_2 => ?_) (fun c_2 => ?_)
    · refine lv_iconst (v := 0) X.1 X.2.1 dX0_holds_21 (by decide) ?_
      exact zr_zret X hW dX0_holds_22 (Nat.le_refl _) (Nat.le_refl _) rfl ⟨rfl, rfl, rfl, Or.inr ⟨by first | omega | (have h8 := hB (6 + zn a) (by simp only [zi_n]; omega); omega), rfl⟩⟩
    · refine lv_iconst (v := 1) X.1 X.2.1 dX0_holds_17 (by decide) ?_
      refine lv_goto (tgt := 22) X.1 X.2.1 dX0_holds_18 (by decide) ?_
      exact zr_zret X hW dX0_holds_22 (Nat.le_refl _) (Nat.le_refl _) rfl ⟨rfl, rfl, rfl, Or.inl ⟨by first | omega | (have h8 := hB (6 + zn a) (by simp only [zi_n]; omega); omega), rfl⟩⟩
  · subst h9
    have h_1 : ¬ (zi_in a 0 5) := h_1
    refine zr_if_eq (a := 0) (tgt := 21) X dX0_holds_4 (by decide) (by decide) (fun _ => ?_) (fun c9 => absurd c9 (by decide))
    refine lv_iconst (v := 0) X.1 X.2.1 dX0_holds_21 (by decide) ?_
    exact zr_zret X hW dX0_holds_22 (Nat.le_refl _) (Nat.le_refl _) rfl ⟨rfl, rfl, rfl, Or.inr ⟨by first | omega | (have h8 := hB (6 + zn a) (by simp only [zi_n]; omega); omega), rfl⟩⟩

set_option maxHeartbeats 8000000 in
set_option maxRecDepth 100000 in
theorem lp_X0_size_b {p : Program} {e : Env} {s : State} {m : MethodId} {below : List Frame} {meth : Method} {c : Code} (l : Launch) (Y : zw_Y) (N0 : Nat) (ad : Nat → Nat) (sh : Nat → Option zw_Sh) (g u : zm_T) (hS : zc_S sh) (hN : zc_N g u) (hB : ∀ i : Nat, i < 12 → -1 ≤ (u 5 i).toInt) (X : zw_X p m meth c cX0_size 3 (some .int) s ([.ref (ad 103)] : List Value).toArray yX0_size.cls Y) (hnm : meth.name = yX0_size.name) :
    ∀ (n : Nat) (i : Nat) (H : Heap) (locs : List Loc) (ls : Array Slot), i ≤ 6 → 6 - i < n → zw_St Y N0 ad sh g s H locs → lv_has ls 3 [(2, .int (nI i)), (1, .int (zs_cnt u 0 i)), (0, .ref (ad 103))] → W p l e ({ frames := 2, cells := 0, slots := 0, locals := 41 } : Room) s m ([.ref (ad 103)] : List Value).toArray below meth c H locs 0 0 (MQ below (zw_Q Y N0 (zp_I ad sh g (fun r => r = zs_cnt u 0 6))) ([.ref (ad 103)] : List Value).toArray s 0 0 (fun q => N0 ≤ q)) (F0 m 4 ls []) := by
  have hN0 := hN
  intro n
  induction n with
  | zero => intro i H locs ls h1 h2; omega
  | succ n ih =>
    intro i H locs ls hi hn hW hl
    refine lv_iload_n X.1 X.2.1 dX0_size_4 rfl (lv_at hl 0 rfl) ?_
    refine lv_bipush (v := 6) X.1 X.2.1 dX0_size_5 (by decide) ?_
    refine zr_icmp_ge (a := ((i : Nat) : Int)) (b := 6) (tgt := 27) X dX0_size_7 (by decide) (nI_toInt (by omega)) (by decide) (fun c_1 => ?_) (fun c_1 => ?_)
    · refine lv_iload_n X.1 X.2.1 dX0_size_27 rfl (lv_at hl 1 rfl) ?_
      have h6 : i = 6 := by omega
      subst h6
      exact zr_iret X hW dX0_size_28 (Nat.le_refl _) (Nat.le_refl _) ⟨rfl, rfl, rfl, _, rfl, rfl⟩
    · refine lv_aload_n X.1 X.2.1 dX0_size_10 rfl (lv_at hl 2 rfl) ?_
      refine lv_iload_n X.1 X.2.1 dX0_size_11 rfl (lv_at hl 0 rfl) ?_
      refine zr_callV (As := [.int (nI (i))]) (rest := []) X hW hl.1 md_X0_holds ms_X0_27 dX0_size_12 (zc_s103 hS) rfl rfl rfl rfl (Nat.le_of_ble_eq_true rfl) ⟨Nat.le_of_ble_eq_true rfl, Nat.le_of_ble_eq_true rfl⟩ ⟨Nat.le_of_ble_eq_true rfl, Nat.le_of_ble_eq_true rfl⟩ (c_X0_holds_b l Y N0 ad sh g u hS hN hB (nI (i))) (fun v9 ad9 sh9 g9 H locs hp hW => ?_)
      rcases hp with ⟨rfl, rfl, rfl, ⟨h_2, h9⟩ | ⟨h_2, h9⟩⟩
      · subst h9
        have h_2 : zs_bk u (nI (i)) := h_2
        refine zr_if_eq (a := 1) (tgt := 21) X dX0_size_15 (by decide) (by decide) (fun c9 => absurd c9 (by decide)) (fun _ => ?_)
        obtain ⟨x_3, ex_3⟩ : ∃ y : Int32, y = (zs_cnt u 0 i) + 1 := ⟨_, rfl⟩
        refine lv_iinc (v := x_3) (lv' := [(1, .int x_3), (2, .int (nI (i))), (0, .ref (ad 103))]) X.1 X.2.1 dX0_size_18 hl (k := 1) rfl (by rw [ex_3]; rfl) (by decide) rfl (fun ls hl => ?_)
        refine lv_iinc (v := nI (i + 1)) (lv' := [(2, .int (nI (i + 1))), (1, .int x_3), (0, .ref (ad 103))]) X.1 X.2.1 dX0_size_21 hl (k := 1) rfl (nI_add i 1) (by decide) rfl (fun ls hl => ?_)
        refine lv_goto (tgt := 4) X.1 X.2.1 dX0_size_24 (by decide) ?_
        have hcl : zn (nI i) = i := nI_clamp (n := i) (by omega)
        have hti := nI_toInt (n := i) (by omega)
        have h8 : (zi_in (nI i) 0 5 ∧ 0 ≤ (u 5 (zn (nI i))).toInt) := h_2
        rw [hcl] at h8
        have hq : 0 ≤ (u 5 (0 + i)).toInt := by rw [Nat.zero_add]; omega
        refine ih (i + 1) _ _ _ (by omega) (by omega) hW ?_
        rw [show zs_cnt u 0 (i + 1) = x_3 from (if_pos hq).trans ex_3.symm]
        exact lv_sub hl [0, 1, 2] rfl
      · subst h9
        have h_2 : ¬ (zs_bk u (nI (i))) := h_2
        refine zr_if_eq (a := 0) (tgt := 21) X dX0_size_15 (by decide) (by decide) (fun _ => ?_) (fun c9 => absurd c9 (by decide))
        refine lv_iinc (v := nI (i + 1)) (lv' := [(2, .int (nI (i + 1))), (1, .int (zs_cnt u 0 i)), (0, .ref (ad 103))]) X.1 X.2.1 dX0_size_21 hl (k := 0) rfl (nI_add i 1) (by decide) rfl (fun ls hl => ?_)
        refine lv_goto (tgt := 4) X.1 X.2.1 dX0_size_24 (by decide) ?_
        have hcl : zn (nI i) = i := nI_clamp (n := i) (by omega)
        have hti := nI_toInt (n := i) (by omega)
        have h8 : ¬ (zi_in (nI i) 0 5 ∧ 0 ≤ (u 5 (zn (nI i))).toInt) := h_2
        rw [hcl] at h8
        have hq : ¬ 0 ≤ (u 5 (0 + i)).toInt := by rw [Nat.zero_add]; omega
        refine ih (i + 1) _ _ _ (by omega) (by omega) hW ?_
        rw [show zs_cnt u 0 (i + 1) = zs_cnt u 0 i from if_neg hq]
        exact lv_sub hl [0, 1, 2] rfl

set_option maxHeartbeats 4000000 in
set_option maxRecDepth 100000 in
theorem c_X0_size_b (l : Launch) (Y : zw_Y) (N0 : Nat) (ad : Nat → Nat) (sh : Nat → Option zw_Sh) (g u : zm_T) (hS : zc_S sh) (hN : zc_N g u) (hB : ∀ i : Nat, i < 12 → -1 ≤ (u 5 i).toInt) : zw_Met l Y N0 yX0_size cX0_size 3 (some .int) 2 41 0 0 ad sh g [.ref (ad 103)] (zp_I ad sh g (fun r => r = zs_cnt u 0 6)) := by
  refine zw_meth (by decide) (Nat.le_of_ble_eq_true rfl) ?_
  intro p e s m below meth c ls X hnm hl hW
  have hl : lv_has ls 3 [(0, .ref (ad 103))] := hl
  refine lv_iconst (v := 0) X.1 X.2.1 dX0_size_0 (by decide) ?_
  refine lv_istore_n (lv' := [(1, .int 0), (0, .ref (ad 103))]) X.1 X.2.1 dX0_size_1 rfl hl (by decide) rfl (fun ls hl => ?_)
  refine lv_iconst (v := 0) X.1 X.2.1 dX0_size_2 (by decide) ?_
  refine lv_istore_n (lv' := [(2, .int 0), (1, .int 0), (0, .ref (ad 103))]) X.1 X.2.1 dX0_size_3 rfl hl (by decide) rfl (fun ls hl => ?_)
  exact lp_X0_size_b l Y N0 ad sh g u hS hN hB X hnm 7 0 _ _ _ (by omega) (by omega) hW (lv_sub hl [0, 1, 2] rfl)

set_option maxHeartbeats 8000000 in
set_option maxRecDepth 100000 in
theorem lp_X0_size_s {p : Program} {e : Env} {s : State} {m : MethodId} {below : List Frame} {meth : Method} {c : Code} (l : Launch) (Y : zw_Y) (N0 : Nat) (ad : Nat → Nat) (sh : Nat → Option zw_Sh) (g u : zm_T) (hS : zc_S sh) (hN : zc_N g u) (hB : ∀ i : Nat, i < 12 → -1 ≤ (u 5 i).toInt) (X : zw_X p m meth c cX0_size 3 (some .int) s ([.ref (ad 104)] : List Value).toArray yX0_size.cls Y) (hnm : meth.name = yX0_size.name) :
    ∀ (n : Nat) (i : Nat) (H : Heap) (locs : List Loc) (ls : Array Slot), i ≤ 6 → 6 - i < n → zw_St Y N0 ad sh g s H locs → lv_has ls 3 [(2, .int (nI i)), (1, .int (zs_cnt u 6 i)), (0, .ref (ad 104))] → W p l e ({ frames := 2, cells := 0, slots := 0, locals := 41 } : Room) s m ([.ref (ad 104)] : List Value).toArray below meth c H locs 0 0 (MQ below (zw_Q Y N0 (zp_I ad sh g (fun r => r = zs_cnt u 6 6))) ([.ref (ad 104)] : List Value).toArray s 0 0 (fun q => N0 ≤ q)) (F0 m 4 ls []) := by
  have hN0 := hN
  intro n
  induction n with
  | zero => intro i H locs ls h1 h2; omega
  | succ n ih =>
    intro i H locs ls hi hn hW hl
    refine lv_iload_n X.1 X.2.1 dX0_size_4 rfl (lv_at hl 0 rfl) ?_
    refine lv_bipush (v := 6) X.1 X.2.1 dX0_size_5 (by decide) ?_
    refine zr_icmp_ge (a := ((i : Nat) : Int)) (b := 6) (tgt := 27) X dX0_size_7 (by decide) (nI_toInt (by omega)) (by decide) (fun c_1 => ?_) (fun c_1 => ?_)
    · refine lv_iload_n X.1 X.2.1 dX0_size_27 rfl (lv_at hl 1 rfl) ?_
      have h6 : i = 6 := by omega
      subst h6
      exact zr_iret X hW dX0_size_28 (Nat.le_refl _) (Nat.le_refl _) ⟨rfl, rfl, rfl, _, rfl, rfl⟩
    · refine lv_aload_n X.1 X.2.1 dX0_size_10 rfl (lv_at hl 2 rfl) ?_
      refine lv_iload_n X.1 X.2.1 dX0_size_11 rfl (lv_at hl 0 rfl) ?_
      refine zr_callV (As := [.int (nI (i))]) (rest := []) X hW hl.1 md_X0_holds ms_X0_27 dX0_size_12 (zc_s104 hS) rfl rfl rfl rfl (Nat.le_of_ble_eq_true rfl) ⟨Nat.le_of_ble_eq_true rfl, Nat.le_of_ble_eq_true rfl⟩ ⟨Nat.le_of_ble_eq_true rfl, Nat.le_of_ble_eq_true rfl⟩ (c_X0_holds_s l Y N0 ad sh g u hS hN hB (nI (i))) (fun v9 ad9 sh9 g9 H locs hp hW => ?_)
      rcases hp with ⟨rfl, rfl, rfl, ⟨h_2, h9⟩ | ⟨h_2, h9⟩⟩
      · subst h9
        have h_2 : zi_in (nI (i)) 0 5 ∧ 0 ≤ (u 5 (6 + zn (nI (i)))).toInt := h_2
        refine zr_if_eq (a := 1) (tgt := 21) X dX0_size_15 (by decide) (by decide) (fun c9 => absurd c9 (by decide)) (fun _ => ?_)
        obtain ⟨x_3, ex_3⟩ : ∃ y : Int32, y = (zs_cnt u 6 i) + 1 := ⟨_, rfl⟩
        refine lv_iinc (v := x_3) (lv' := [(1, .int x_3), (2, .int (nI (i))), (0, .ref (ad 104))]) X.1 X.2.1 dX0_size_18 hl (k := 1) rfl (by rw [ex_3]; rfl) (by decide) rfl (fun ls hl => ?_)
        refine lv_iinc (v := nI (i + 1)) (lv' := [(2, .int (nI (i + 1))), (1, .int x_3), (0, .ref (ad 104))]) X.1 X.2.1 dX0_size_21 hl (k := 1) rfl (nI_add i 1) (by decide) rfl (fun ls hl => ?_)
        refine lv_goto (tgt := 4) X.1 X.2.1 dX0_size_24 (by decide) ?_
        have hcl : zn (nI i) = i := nI_clamp (n := i) (by omega)
        have hti := nI_toInt (n := i) (by omega)
        have h8 : (zi_in (nI i) 0 5 ∧ 0 ≤ (u 5 (6 + zn (nI i))).toInt) := h_2
        rw [hcl] at h8
        have hq : 0 ≤ (u 5 (6 + i)).toInt := by rw [show 6 + i = 6 + i from rfl]; omega
        refine ih (i + 1) _ _ _ (by omega) (by omega) hW ?_
        rw [show zs_cnt u 6 (i + 1) = x_3 from (if_pos hq).trans ex_3.symm]
        exact lv_sub hl [0, 1, 2] rfl
      · subst h9
        have h_2 : ¬ (zi_in (nI (i)) 0 5 ∧ 0 ≤ (u 5 (6 + zn (nI (i)))).toInt) := h_2
        refine zr_if_eq (a := 0) (tgt := 21) X dX0_size_15 (by decide) (by decide) (fun _ => ?_) (fun c9 => absurd c9 (by decide))
        refine lv_iinc (v := nI (i + 1)) (lv' := [(2, .int (nI (i + 1))), (1, .int (zs_cnt u 6 i)), (0, .ref (ad 104))]) X.1 X.2.1 dX0_size_21 hl (k := 0) rfl (nI_add i 1) (by decide) rfl (fun ls hl => ?_)
        refine lv_goto (tgt := 4) X.1 X.2.1 dX0_size_24 (by decide) ?_
        have hcl : zn (nI i) = i := nI_clamp (n := i) (by omega)
        have hti := nI_toInt (n := i) (by omega)
        have h8 : ¬ (zi_in (nI i) 0 5 ∧ 0 ≤ (u 5 (6 + zn (nI i))).toInt) := h_2
        rw [hcl] at h8
        have hq : ¬ 0 ≤ (u 5 (6 + i)).toInt := by rw [show 6 + i = 6 + i from rfl]; omega
        refine ih (i + 1) _ _ _ (by omega) (by omega) hW ?_
        rw [show zs_cnt u 6 (i + 1) = zs_cnt u 6 i from if_neg hq]
        exact lv_sub hl [0, 1, 2] rfl

set_option maxHeartbeats 4000000 in
set_option maxRecDepth 100000 in
theorem c_X0_size_s (l : Launch) (Y : zw_Y) (N0 : Nat) (ad : Nat → Nat) (sh : Nat → Option zw_Sh) (g u : zm_T) (hS : zc_S sh) (hN : zc_N g u) (hB : ∀ i : Nat, i < 12 → -1 ≤ (u 5 i).toInt) : zw_Met l Y N0 yX0_size cX0_size 3 (some .int) 2 41 0 0 ad sh g [.ref (ad 104)] (zp_I ad sh g (fun r => r = zs_cnt u 6 6)) := by
  refine zw_meth (by decide) (Nat.le_of_ble_eq_true rfl) ?_
  intro p e s m below meth c ls X hnm hl hW
  have hl : lv_has ls 3 [(0, .ref (ad 104))] := hl
  refine lv_iconst (v := 0) X.1 X.2.1 dX0_size_0 (by decide) ?_
  refine lv_istore_n (lv' := [(1, .int 0), (0, .ref (ad 104))]) X.1 X.2.1 dX0_size_1 rfl hl (by decide) rfl (fun ls hl => ?_)
  refine lv_iconst (v := 0) X.1 X.2.1 dX0_size_2 (by decide) ?_
  refine lv_istore_n (lv' := [(2, .int 0), (1, .int 0), (0, .ref (ad 104))]) X.1 X.2.1 dX0_size_3 rfl hl (by decide) rfl (fun ls hl => ?_)
  exact lp_X0_size_s l Y N0 ad sh g u hS hN hB X hnm 7 0 _ _ _ (by omega) (by omega) hW (lv_sub hl [0, 1, 2] rfl)
