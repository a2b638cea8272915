set_option maxHeartbeats 4000000 in
set_option maxRecDepth 100000 in
theorem c_X10_in (l : Launch) (Y : zw_Y) (N0 : Nat) (ad : Nat → Nat) (sh : Nat → Option zw_Sh) (g : zm_T) (x lo hi : Int32) : zw_Met l Y N0 yX10_in cX10_in 3 (some .boolean) 0 0 0 0 ad sh g [.int x, .int lo, .int hi] (zp_B ad sh g (zi_in x (lo).toInt (hi).toInt)) := by
  refine zw_meth (by decide) (Nat.le_of_ble_eq_true rfl) ?_
  intro p e s m below meth c ls X hnm hl hW
  have hl : lv_has ls 3 [(0, .int x), (1, .int lo), (2, .int hi)] := hl
  refine lv_iload_n X.1 X.2.1 dX10_in_0 rfl (lv_at hl 0 rfl) ?_
  refine lv_iload_n X.1 X.2.1 dX10_in_1 rfl (lv_at hl 1 rfl) ?_
  refine zr_icmp_lt (a := (x).toInt) (b := (lo).toInt) (tgt := 14) X dX10_in_2 (by decide) rfl rfl (fun c_1 => ?_) (fun c_1 => ?_)
  · refine lv_iconst (v := 0) X.1 X.2.1 dX10_in_14 (by decide) ?_
    exact zr_zret X hW dX10_in_15 (Nat.le_refl _) (Nat.le_refl _) rfl ⟨rfl, rfl, rfl, Or.inr ⟨by omega, rfl⟩⟩
  · refine lv_iload_n X.1 X.2.1 dX10_in_5 rfl (lv_at hl 0 rfl) ?_
    refine lv_iload_n X.1 X.2.1 dX10_in_6 rfl (lv_at hl 2 rfl) ?_
    refine zr_icmp_gt (a := (x).toInt) (b := (hi).toInt) (tgt := 14) X dX10_in_7 (by decide) rfl rfl (fun c_2 => ?_) (fun c_2 => ?_)
    · refine lv_iconst (v := 0) X.1 X.2.1 dX10_in_14 (by decide) ?_
      exact zr_zret X hW dX10_in_15 (Nat.le_refl _) (Nat.le_refl _) rfl ⟨rfl, rfl, rfl, Or.inr ⟨by omega, rfl⟩⟩
    · refine lv_iconst (v := 1) X.1 X.2.1 dX10_in_10 (by decide) ?_
      refine lv_goto (tgt := 15) X.1 X.2.1 dX10_in_11 (by decide) ?_
      exact zr_zret X hW dX10_in_15 (Nat.le_refl _) (Nat.le_refl _) rfl ⟨rfl, rfl, rfl, Or.inl ⟨by omega, rfl⟩⟩

set_option maxHeartbeats 4000000 in
set_option maxRecDepth 100000 in
theorem c_X10_user (l : Launch) (Y : zw_Y) (N0 : Nat) (ad : Nat → Nat) (sh : Nat → Option zw_Sh) (u g0 : zm_T) (hM : zm_S sh) (a : Int32) : zw_Met l Y N0 yX10_user cX10_user 2 (some .boolean) 1 22 0 0 ad sh (zm_mix u g0) [.ref (ad 0), .int a] (zp_B ad sh (zm_mix u g0) (zs_us a)) := by
  refine zw_meth (by decide) (Nat.le_of_ble_eq_true rfl) ?_
  intro p e s m below meth c ls X hnm hl hW
  have hl : lv_has ls 2 [(0, .ref (ad 0)), (1, .int a)] := hl
  refine lv_iload_n X.1 X.2.1 dX10_user_0 rfl (lv_at hl 1 rfl) ?_
  refine lv_iconst (v := 2) X.1 X.2.1 dX10_user_1 (by decide) ?_
  refine lv_iconst (v := 5) X.1 X.2.1 dX10_user_2 (by decide) ?_
  refine zr_callS (As := [.int a, .int 2, .int 5]) (rest := []) X hW hl.1 md_X10_in ms_X10_87 dX10_user_3 rfl rfl (Nat.le_of_ble_eq_true rfl) ⟨Nat.le_of_ble_eq_true rfl, Nat.le_of_ble_eq_true rfl⟩ ⟨Nat.le_of_ble_eq_true rfl, Nat.le_of_ble_eq_true rfl⟩ (c_X10_in l Y N0 ad sh (zm_mix u g0) a 2 5) (fun v9 ad9 sh9 g9 H locs hp hW => ?_)
  rcases hp with ⟨rfl, rfl, rfl, ⟨h_1, h9⟩ | ⟨h_1, h9⟩⟩
  · subst h9
    have h_1 : zi_in a 2 5 := h_1
    exact zr_zret X hW dX10_user_6 (Nat.le_refl _) (Nat.le_refl _) rfl ⟨rfl, rfl, rfl, Or.inl ⟨by omega, rfl⟩⟩
  · subst h9
    have h_1 : ¬ (zi_in a 2 5) := h_1
    exact zr_zret X hW dX10_user_6 (Nat.le_refl _) (Nat.le_refl _) rfl ⟨rfl, rfl, rfl, Or.inr ⟨by omega, rfl⟩⟩

set_option maxHeartbeats 4000000 in
set_option maxRecDepth 100000 in
theorem c_X10_booked (l : Launch) (Y : zw_Y) (N0 : Nat) (ad : Nat → Nat) (sh : Nat → Option zw_Sh) (u g0 : zm_T) (hM : zm_S sh) (a : Int32) : zw_Met l Y N0 yX10_booked cX10_booked 2 (some .boolean) 1 22 0 0 ad sh (zm_mix u g0) [.ref (ad 0), .int a] (zp_B ad sh (zm_mix u g0) (zs_bk u a)) := by
  refine zw_meth (by decide) (Nat.le_of_ble_eq_true rfl) ?_
  intro p e s m below meth c ls X hnm hl hW
  have hl : lv_has ls 2 [(0, .ref (ad 0)), (1, .int a)] := hl
  refine lv_iload_n X.1 X.2.1 dX10_booked_0 rfl (lv_at hl 1 rfl) ?_
  refine lv_iconst (v := 0) X.1 X.2.1 dX10_booked_1 (by decide) ?_
  refine lv_iconst (v := 5) X.1 X.2.1 dX10_booked_2 (by decide) ?_
  refine zr_callS (As := [.int a, .int 0, .int 5]) (rest := []) X hW hl.1 md_X10_in ms_X10_87 dX10_booked_3 rfl rfl (Nat.le_of_ble_eq_true rfl) ⟨Nat.le_of_ble_eq_true rfl, Nat.le_of_ble_eq_true rfl⟩ ⟨Nat.le_of_ble_eq_true rfl, Nat.le_of_ble_eq_true rfl⟩ (c_X10_in l Y N0 ad sh (zm_mix u g0) a 0 5) (fun v9 ad9 sh9 g9 H locs hp hW => ?_)
  rcases hp with ⟨rfl, rfl, rfl, ⟨h_1, h9⟩ | ⟨h_1, h9⟩⟩
  · subst h9
    have h_1 : zi_in a 0 5 := h_1
    refine zr_if_eq (a := 1) (tgt := 22) X dX10_booked_6 (by decide) (by decide) (fun c9 => absurd c9 (by decide)) (fun _ => ?_)
    refine lv_aload_n X.1 X.2.1 dX10_booked_9 rfl (lv_at hl 0 rfl) ?_
    refine zr_get (v := .ref (ad 5)) X hW fs_X10_20_9 dX10_booked_10 (zm_s0 hM) rfl rfl rfl ?_
    refine lv_iload_n X.1 X.2.1 dX10_booked_13 rfl (lv_at hl 1 rfl) ?_
    refine zr_iald (v := u 5 (zn a)) X hW dX10_booked_14 (zm_s5 hM) rfl rfl (zi_vp (by omega)) rfl ?_
    refine zr_if_lt (a := (u 5 (zn a)).toInt) (tgt := 22) X dX10_booked_15 (by decide) rfl (fun c_2 => ?_) (fun c_2 => ?_)
    · refine lv_iconst (v := 0) X.1 X.2.1 dX10_booked_22 (by decide) ?_
      exact zr_zret X hW dX10_booked_23 (Nat.le_refl _) (Nat.le_refl _) rfl ⟨rfl, rfl, rfl, Or.inr ⟨by omega, rfl⟩⟩
    · refine lv_iconst (v := 1) X.1 X.2.1 dX10_booked_18 (by decide) ?_
      refine lv_goto (tgt := 23) X.1 X.2.1 dX10_booked_19 (by decide) ?_
      exact zr_zret X hW dX10_booked_23 (Nat.le_refl _) (Nat.le_refl _) rfl ⟨rfl, rfl, rfl, Or.inl ⟨by omega, rfl⟩⟩
  · subst h9
    have h_1 : ¬ (zi_in a 0 5) := h_1
    refine zr_if_eq (a := 0) (tgt := 22) X dX10_booked_6 (by decide) (by decide) (fun _ => ?_) (fun c9 => absurd c9 (by decide))
    refine lv_iconst (v := 0) X.1 X.2.1 dX10_booked_22 (by decide) ?_
    exact zr_zret X hW dX10_booked_23 (Nat.le_refl _) (Nat.le_refl _) rfl ⟨rfl, rfl, rfl, Or.inr ⟨by omega, rfl⟩⟩

theorem zi_cgt (a b : Int64) : 0 < (lg_cmp a b).toInt ↔ b.toInt < a.toInt := by
  unfold lg_cmp
  by_cases h : a > b
  · rw [if_pos h]; have := Int64.lt_iff_toInt_lt.mp h; constructor <;> intro _ <;> first | exact this | decide
  · rw [if_neg h]
    have h2 : ¬ b.toInt < a.toInt := fun q => h (Int64.lt_iff_toInt_lt.mpr q)
    by_cases h3 : a = b
    · rw [if_pos h3]; constructor <;> intro q <;> first | exact absurd q (by decide) | exact absurd q h2
    · rw [if_neg h3]; constructor <;> intro q <;> first | exact absurd q (by decide) | exact absurd q h2
theorem zi_clt (a b : Int64) : (lg_cmp a b).toInt < 0 ↔ a.toInt < b.toInt := by
  unfold lg_cmp
  by_cases h : a > b
  · rw [if_pos h]; have := Int64.lt_iff_toInt_lt.mp h; constructor <;> intro q <;> first | exact absurd q (by decide) | omega
  · rw [if_neg h]
    have h2 : ¬ b.toInt < a.toInt := fun q => h (Int64.lt_iff_toInt_lt.mpr q)
    by_cases h3 : a = b
    · subst h3; rw [if_pos rfl]; constructor <;> intro q <;> first | exact absurd q (by decide) | omega
    · rw [if_neg h3]
      have h4 : a.toInt ≠ b.toInt := fun q => h3 (Int64.toInt_inj.mp q)
      constructor <;> intro q <;> first | omega | decide
theorem zi_rg (x : Int32) : -2147483648 ≤ x.toInt ∧ x.toInt < 2147483648 := ⟨x.le_toInt, x.toInt_lt⟩
theorem zi_lsub (x y : Int32) : (x.toInt64 - y.toInt64).toInt = x.toInt - y.toInt := by
  have h1 := zi_rg x
  have h2 := zi_rg y
  rw [Int64.toInt_sub, Int32.toInt_toInt64, Int32.toInt_toInt64]
  exact Int.bmod_eq_of_le (by omega) (by omega)
theorem zi_neg {x : Int32} (h : 0 ≤ x.toInt ∧ x.toInt ≤ 100) : (-x).toInt = -x.toInt := by
  rw [Int32.toInt_neg]
  exact Int.bmod_eq_of_le (by omega) (by omega)
theorem zi_add (x y : Int32) (h : -2147483648 ≤ x.toInt + y.toInt ∧ x.toInt + y.toInt < 2147483648) : (x + y).toInt = x.toInt + y.toInt := by
  rw [Int32.toInt_add]
  exact Int.bmod_eq_of_le (by omega) (by omega)
theorem zi_sub (x y : Int32) (h : -2147483648 ≤ x.toInt - y.toInt ∧ x.toInt - y.toInt < 2147483648) : (x - y).toInt = x.toInt - y.toInt := by
  rw [Int32.toInt_sub]
  exact Int.bmod_eq_of_le (by omega) (by omega)
theorem zi_mul (x y : Int32) (h : -2147483648 ≤ x.toInt * y.toInt ∧ x.toInt * y.toInt < 2147483648) : (x * y).toInt = x.toInt * y.toInt := by
  rw [Int32.toInt_mul]
  exact Int.bmod_eq_of_le (by omega) (by omega)
theorem zi_n (x : Int32) : zn x = x.toInt.toNat := rfl
theorem zI_sk {u : zm_T} (h : zm_I u) : 0 ≤ (u 0 0).toInt ∧ (u 0 0).toInt ≤ 100 := h.1
theorem zI_ke {u : zm_T} (h : zm_I u) : 0 ≤ (u 0 2).toInt ∧ (u 0 2).toInt ≤ 200 := h.2.1
theorem zI_se {u : zm_T} (h : zm_I u) : 0 ≤ (u 0 8).toInt ∧ (u 0 8).toInt ≤ 150 := h.2.2.1
theorem zI_ca {u : zm_T} (h : zm_I u) : 0 ≤ (u 0 28).toInt ∧ (u 0 28).toInt ≤ 12 := h.2.2.2.1
theorem zI_bk {u : zm_T} (h : zm_I u) (i : Nat) (hi : i < 12) : -1 ≤ (u 5 i).toInt ∧ (u 5 i).toInt < (u 0 2).toInt := h.2.2.2.2.1 i hi
theorem zI_ow {u : zm_T} (h : zm_I u) (i : Nat) (hi : i < 6) : -1 ≤ (u 3 i).toInt ∧ (u 3 i).toInt < (u 0 2).toInt := h.2.2.2.2.2.1 i hi
theorem zI_tk {u : zm_T} (h : zm_I u) (i : Nat) (hi : i < 12) : -1 ≤ (u 23 i).toInt ∧ (u 23 i).toInt < (u 0 8).toInt ∧ (0 ≤ (u 23 i).toInt → 0 ≤ (u 24 i).toInt ∧ (u 24 i).toInt < (u 0 2).toInt) := h.2.2.2.2.2.2.1 i hi
theorem zI_tg {u : zm_T} (h : zm_I u) (i : Nat) (hi : i < 6) : 0 ≤ (u 21 i).toInt ∧ (u 21 i).toInt ≤ 1 := h.2.2.2.2.2.2.2.1 i hi
theorem zI_sl {u : zm_T} (h : zm_I u) (i : Nat) (hi : (i : Int) < (u 0 8).toInt) : (1 ≤ (u 9 i).toInt ∧ (u 9 i).toInt ≤ 4) ∧ (0 ≤ (u 10 i).toInt ∧ (u 10 i).toInt < (u 0 2).toInt) ∧ ((u 9 i).toInt = 2 ∨ (u 9 i).toInt = 3 → 0 ≤ (u 12 i).toInt ∧ (u 12 i).toInt < (u 0 2).toInt) ∧ (¬ (u 9 i).toInt = 3 → 0 ≤ (u 11 i).toInt ∧ (u 11 i).toInt ≤ 5) ∧ ((u 9 i).toInt = 4 → (0 ≤ (u 16 i).toInt ∧ (u 16 i).toInt ≤ 3) ∧ (0 ≤ (u 17 i).toInt ∧ (u 17 i).toInt ≤ 2)) := h.2.2.2.2.2.2.2.2.1 i hi
theorem zI_cq {u : zm_T} (h : zm_I u) (i : Nat) (hi : (i : Int) < (u 0 28).toInt) : (0 ≤ (u 29 i).toInt ∧ (u 29 i).toInt < (u 0 8).toInt) ∧ (u 9 (zn (u 29 i))).toInt = 4 := h.2.2.2.2.2.2.2.2.2.1 i hi
theorem zI_st {u : zm_T} (h : zm_I u) (i : Nat) (hi : i < 200) : (u 4 i).toInt = 0 ∨ (u 4 i).toInt = 1 := h.2.2.2.2.2.2.2.2.2.2 i hi
theorem zi_ext {x y : Int32} (h : x.toInt = y.toInt) : x = y := Int32.toInt_inj.mp h

set_option maxHeartbeats 4000000 in
set_option maxRecDepth 100000 in
theorem c_X10_near (l : Launch) (Y : zw_Y) (N0 : Nat) (ad : Nat → Nat) (sh : Nat → Option zw_Sh) (u g0 : zm_T) (hM : zm_S sh) (x y : Int32) (hI : zm_I u) : zw_Met l Y N0 yX10_near cX10_near 5 (some .boolean) 0 0 0 0 ad sh (zm_mix u g0) [.ref (ad 0), .int x, .int y] (zp_B ad sh (zm_mix u g0) (zs_nr u x y)) := by
  refine zw_meth (by decide) (Nat.le_of_ble_eq_true rfl) ?_
  intro p e s m below meth c ls X hnm hl hW
  have hl : lv_has ls 5 [(0, .ref (ad 0)), (1, .int x), (2, .int y)] := hl
  have hsk := hI.1
  refine lv_iload_n X.1 X.2.1 dX10_near_0 rfl (lv_at hl 1 rfl) ?_
  refine lv_i2l X.1 X.2.1 dX10_near_1 rfl ?_
  refine lv_iload_n X.1 X.2.1 dX10_near_2 rfl (lv_at hl 2 rfl) ?_
  refine lv_i2l X.1 X.2.1 dX10_near_3 rfl ?_
  refine lv_lsub X.1 X.2.1 dX10_near_4 ?_
  refine lv_lstore_n (lv' := [(3, .long (x.toInt64 - y.toInt64)), (0, .ref (ad 0)), (1, .int x), (2, .int y)]) X.1 X.2.1 dX10_near_5 rfl hl (by decide) rfl (fun ls hl => ?_)
  refine lv_lload_n X.1 X.2.1 dX10_near_6 rfl (lv_at hl 0 rfl) ?_
  refine lv_aload_n X.1 X.2.1 dX10_near_7 rfl (lv_at hl 1 rfl) ?_
  refine zr_get (v := .int (u 0 0)) X hW fs_X10_83_9 dX10_near_8 (zm_s0 hM) rfl rfl rfl ?_
  refine lv_i2l X.1 X.2.1 dX10_near_11 rfl ?_
  refine W.lcmp X.1 X.2.1 dX10_near_12 ?_
  refine zr_if_gt (a := (lg_cmp (x.toInt64 - y.toInt64) ((u 0 0).toInt64)).toInt) (tgt := 31) X dX10_near_13 (by decide) rfl (fun c_1 => ?_) (fun c_1 => ?_)
  · refine lv_iconst (v := 0) X.1 X.2.1 dX10_near_31 (by decide) ?_
    exact zr_zret X hW dX10_near_32 (Nat.le_refl _) (Nat.le_refl _) rfl ⟨rfl, rfl, rfl, Or.inr ⟨by first | (simp only [zi_cgt, zi_clt, zi_lsub, Int32.toInt_toInt64, zi_neg hsk] at *; omega) | omega, rfl⟩⟩
  · refine lv_lload_n X.1 X.2.1 dX10_near_16 rfl (lv_at hl 0 rfl) ?_
    refine lv_aload_n X.1 X.2.1 dX10_near_17 rfl (lv_at hl 1 rfl) ?_
    refine zr_get (v := .int (u 0 0)) X hW fs_X10_83_9 dX10_near_18 (zm_s0 hM) rfl rfl rfl ?_
    refine lv_ineg X.1 X.2.1 dX10_near_21 ?_
    refine lv_i2l X.1 X.2.1 dX10_near_22 rfl ?_
    refine W.lcmp X.1 X.2.1 dX10_near_23 ?_
    refine zr_if_lt (a := (lg_cmp (x.toInt64 - y.toInt64) ((-(u 0 0)).toInt64)).toInt) (tgt := 31) X dX10_near_24 (by decide) rfl (fun c_2 => ?_) (fun c_2 => ?_)
    · refine lv_iconst (v := 0) X.1 X.2.1 dX10_near_31 (by decide) ?_
      exact zr_zret X hW dX10_near_32 (Nat.le_refl _) (Nat.le_refl _) rfl ⟨rfl, rfl, rfl, Or.inr ⟨by first | (simp only [zi_cgt, zi_clt, zi_lsub, Int32.toInt_toInt64, zi_neg hsk] at *; omega) | omega, rfl⟩⟩
    · refine lv_iconst (v := 1) X.1 X.2.1 dX10_near_27 (by decide) ?_
      refine lv_goto (tgt := 32) X.1 X.2.1 dX10_near_28 (by decide) ?_
      exact zr_zret X hW dX10_near_32 (Nat.le_refl _) (Nat.le_refl _) rfl ⟨rfl, rfl, rfl, Or.inl ⟨by first | (simp only [zi_cgt, zi_clt, zi_lsub, Int32.toInt_toInt64, zi_neg hsk] at *; omega) | omega, rfl⟩⟩

set_option maxHeartbeats 4000000 in
set_option maxRecDepth 100000 in
theorem c_X10_least (l : Launch) (Y : zw_Y) (N0 : Nat) (ad : Nat → Nat) (sh : Nat → Option zw_Sh) (g : zm_T) (x y : Int32) : zw_Met l Y N0 yX10_least cX10_least 2 (some .int) 0 0 0 0 ad sh g [.int x, .int y] (zp_I ad sh g (fun r => r = zs_mn x y)) := by
  refine zw_meth (by decide) (Nat.le_of_ble_eq_true rfl) ?_
  intro p e s m below meth c ls X hnm hl hW
  have hl : lv_has ls 2 [(0, .int x), (1, .int y)] := hl
  refine lv_iload_n X.1 X.2.1 dX10_least_0 rfl (lv_at hl 0 rfl) ?_
  refine lv_iload_n X.1 X.2.1 dX10_least_1 rfl (lv_at hl 1 rfl) ?_
  refine zr_icmp_ge (a := (x).toInt) (b := (y).toInt) (tgt := 9) X dX10_least_2 (by decide) rfl rfl (fun c_1 => ?_) (fun c_1 => ?_)
  · refine lv_iload_n X.1 X.2.1 dX10_least_9 rfl (lv_at hl 1 rfl) ?_
    exact zr_iret X hW dX10_least_10 (Nat.le_refl _) (Nat.le_refl _) ⟨rfl, rfl, rfl, _, rfl, by unfold zs_mn; split <;> first | rfl | omega⟩
  · refine lv_iload_n X.1 X.2.1 dX10_least_5 rfl (lv_at hl 0 rfl) ?_
    refine lv_goto (tgt := 10) X.1 X.2.1 dX10_least_6 (by decide) ?_
    exact zr_iret X hW dX10_least_10 (Nat.le_refl _) (Nat.le_refl _) ⟨rfl, rfl, rfl, _, rfl, by unfold zs_mn; split <;> first | rfl | omega⟩

set_option maxHeartbeats 4000000 in
set_option maxRecDepth 100000 in
theorem c_X10_answer (l : Launch) (Y : zw_Y) (N0 : Nat) (ad : Nat → Nat) (sh : Nat → Option zw_Sh) (u g0 : zm_T) (hM : zm_S sh) : zw_Met l Y N0 yX10_answer cX10_answer 1 (some .int) 0 0 0 0 ad sh (zm_mix u g0) [.ref (ad 0)] (zp_I ad sh (zm_mix u g0) (fun r => r = u 0 27)) := by
  refine zw_meth (by decide) (Nat.le_of_ble_eq_true rfl) ?_
  intro p e s m below meth c ls X hnm hl hW
  have hl : lv_has ls 1 [(0, .ref (ad 0))] := hl
  refine lv_aload_n X.1 X.2.1 dX10_answer_0 rfl (lv_at hl 0 rfl) ?_
  refine zr_get (v := .int (u 0 27)) X hW fs_X10_156_9 dX10_answer_1 (zm_s0 hM) rfl rfl rfl ?_
  exact zr_iret X hW dX10_answer_4 (Nat.le_refl _) (Nat.le_refl _) ⟨rfl, rfl, rfl, _, rfl, rfl⟩

set_option maxHeartbeats 4000000 in
set_option maxRecDepth 100000 in
theorem c_X10_opens (l : Launch) (Y : zw_Y) (N0 : Nat) (ad : Nat → Nat) (sh : Nat → Option zw_Sh) (u g0 : zm_T) (hM : zm_S sh) (key q k : Int32) (hI : zm_I u) : zw_Met l Y N0 yX10_opens cX10_opens 4 (some .boolean) 1 22 0 0 ad sh (zm_mix u g0) [.ref (ad 0), .int key, .int q, .int k] (zp_B ad sh (zm_mix u g0) (zs_op u key q (k).toInt)) := by
  refine zw_meth (by decide) (Nat.le_of_ble_eq_true rfl) ?_
  intro p e s m below meth c ls X hnm hl hW
  have hl : lv_has ls 4 [(0, .ref (ad 0)), (1, .int key), (2, .int q), (3, .int k)] := hl
  have hse := hI.2.2.1
  have hs1 := zi_sub (u 0 8) 1 (by rw [show (1 : Int32).toInt = 1 from rfl]; omega)
  rw [show (1 : Int32).toInt = 1 from rfl] at hs1
  refine lv_iload_n X.1 X.2.1 dX10_opens_0 rfl (lv_at hl 2 rfl) ?_
  refine lv_iconst (v := 0) X.1 X.2.1 dX10_opens_1 (by decide) ?_
  refine lv_aload_n X.1 X.2.1 dX10_opens_2 rfl (lv_at hl 0 rfl) ?_
  refine zr_get (v := .int (u 0 8)) X hW fs_X10_102_9 dX10_opens_3 (zm_s0 hM) rfl rfl rfl ?_
  refine lv_iconst (v := 1) X.1 X.2.1 dX10_opens_6 (by decide) ?_
  refine lv_isub X.1 X.2.1 dX10_opens_7 ?_
  refine zr_callS (As := [.int q, .int 0, .int ((u 0 8) - 1)]) (rest := []) X hW hl.1 md_X10_in ms_X10_87 dX10_opens_8 rfl rfl (Nat.le_of_ble_eq_true rfl) ⟨Nat.le_of_ble_eq_true rfl, Nat.le_of_ble_eq_true rfl⟩ ⟨Nat.le_of_ble_eq_true rfl, Nat.le_of_ble_eq_true rfl⟩ (c_X10_in l Y N0 ad sh (zm_mix u g0) q 0 ((u 0 8) - 1)) (fun v9 ad9 sh9 g9 H locs hp hW => ?_)
  rcases hp with ⟨rfl, rfl, rfl, ⟨h_1, h9⟩ | ⟨h_1, h9⟩⟩
  · subst h9
    have h_1 : zi_in q 0 ((u 0 8) - 1).toInt := h_1
    refine zr_if_eq (a := 1) (tgt := 42) X dX10_opens_11 (by decide) (by decide) (fun c9 => absurd c9 (by decide)) (fun _ => ?_)
    refine lv_aload_n X.1 X.2.1 dX10_opens_14 rfl (lv_at hl 0 rfl) ?_
    refine zr_get (v := .ref (ad 9)) X hW fs_X10_29_9 dX10_opens_15 (zm_s0 hM) rfl rfl rfl ?_
    refine lv_iload_n X.1 X.2.1 dX10_opens_18 rfl (lv_at hl 2 rfl) ?_
    refine zr_iald (v := u 9 (zn q)) X hW dX10_opens_19 (zm_s9 hM) rfl rfl (zi_vp (by omega)) rfl ?_
    refine lv_iload_n X.1 X.2.1 dX10_opens_20 rfl (lv_at hl 3 rfl) ?_
    refine zr_icmp_ne (a := (u 9 (zn q)).toInt) (b := (k).toInt) (tgt := 42) X dX10_opens_21 (by decide) rfl rfl (fun c_2 => ?_) (fun c_2 => ?_)
    · refine lv_iconst (v := 0) X.1 X.2.1 dX10_opens_42 (by decide) ?_
      exact zr_zret X hW dX10_opens_43 (Nat.le_refl _) (Nat.le_refl _) rfl ⟨rfl, rfl, rfl, Or.inr ⟨by omega, rfl⟩⟩
    · refine lv_iload_n X.1 X.2.1 dX10_opens_24 rfl (lv_at hl 1 rfl) ?_
      refine zr_if_lt (a := (key).toInt) (tgt := 42) X dX10_opens_25 (by decide) rfl (fun c_3 => ?_) (fun c_3 => ?_)
      · refine lv_iconst (v := 0) X.1 X.2.1 dX10_opens_42 (by decide) ?_
        exact zr_zret X hW dX10_opens_43 (Nat.le_refl _) (Nat.le_refl _) rfl ⟨rfl, rfl, rfl, Or.inr ⟨by omega, rfl⟩⟩
      · refine lv_aload_n X.1 X.2.1 dX10_opens_28 rfl (lv_at hl 0 rfl) ?_
        refine zr_get (v := .ref (ad 10)) X hW fs_X10_32_9 dX10_opens_29 (zm_s0 hM) rfl rfl rfl ?_
        refine lv_iload_n X.1 X.2.1 dX10_opens_32 rfl (lv_at hl 2 rfl) ?_
        refine zr_iald (v := u 10 (zn q)) X hW dX10_opens_33 (zm_s10 hM) rfl rfl (zi_vp (by omega)) rfl ?_
        refine lv_iload_n X.1 X.2.1 dX10_opens_34 rfl (lv_at hl 1 rfl) ?_
        refine zr_icmp_ne (a := (u 10 (zn q)).toInt) (b := (key).toInt) (tgt := 42) X dX10_opens_35 (by decide) rfl rfl (fun c_4 => ?_) (fun c_4 => ?_)
        · refine lv_iconst (v := 0) X.1 X.2.1 dX10_opens_42 (by decide) ?_
          exact zr_zret X hW dX10_opens_43 (Nat.le_refl _) (Nat.le_refl _) rfl ⟨rfl, rfl, rfl, Or.inr ⟨by omega, rfl⟩⟩
        · refine lv_iconst (v := 1) X.1 X.2.1 dX10_opens_38 (by decide) ?_
          refine lv_goto (tgt := 43) X.1 X.2.1 dX10_opens_39 (by decide) ?_
          exact zr_zret X hW dX10_opens_43 (Nat.le_refl _) (Nat.le_refl _) rfl ⟨rfl, rfl, rfl, Or.inl ⟨by omega, rfl⟩⟩
  · subst h9
    have h_1 : ¬ (zi_in q 0 ((u 0 8) - 1).toInt) := h_1
    refine zr_if_eq (a := 0) (tgt := 42) X dX10_opens_11 (by decide) (by decide) (fun _ => ?_) (fun c9 => absurd c9 (by decide))
    refine lv_iconst (v := 0) X.1 X.2.1 dX10_opens_42 (by decide) ?_
    exact zr_zret X hW dX10_opens_43 (Nat.le_refl _) (Nat.le_refl _) rfl ⟨rfl, rfl, rfl, Or.inr ⟨by omega, rfl⟩⟩

set_option maxHeartbeats 4000000 in
set_option maxRecDepth 100000 in
theorem c_X10_isStolen (l : Launch) (Y : zw_Y) (N0 : Nat) (ad : Nat → Nat) (sh : Nat → Option zw_Sh) (u g0 : zm_T) (hM : zm_S sh) (k : Int32) (hI : zm_I u) : zw_Met l Y N0 yX10_isStolen cX10_isStolen 2 (some .boolean) 1 22 0 0 ad sh (zm_mix u g0) [.ref (ad 0), .int k] (zp_B ad sh (zm_mix u g0) (zs_st u k)) := by
  refine zw_meth (by decide) (Nat.le_of_ble_eq_true rfl) ?_
  intro p e s m below meth c ls X hnm hl hW
  have hl : lv_has ls 2 [(0, .ref (ad 0)), (1, .int k)] := hl
  have hke := hI.2.1
  have hs1 := zi_sub (u 0 2) 1 (by rw [show (1 : Int32).toInt = 1 from rfl]; omega)
  rw [show (1 : Int32).toInt = 1 from rfl] at hs1
  refine lv_iload_n X.1 X.2.1 dX10_isStolen_0 rfl (lv_at hl 1 rfl) ?_
  refine lv_iconst (v := 0) X.1 X.2.1 dX10_isStolen_1 (by decide) ?_
  refine lv_aload_n X.1 X.2.1 dX10_isStolen_2 rfl (lv_at hl 0 rfl) ?_
  refine zr_get (v := .int (u 0 2)) X hW fs_X10_91_9 dX10_isStolen_3 (zm_s0 hM) rfl rfl rfl ?_
  refine lv_iconst (v := 1) X.1 X.2.1 dX10_isStolen_6 (by decide) ?_
  refine lv_isub X.1 X.2.1 dX10_isStolen_7 ?_
  refine zr_callS (As := [.int k, .int 0, .int ((u 0 2) - 1)]) (rest := []) X hW hl.1 md_X10_in ms_X10_87 dX10_isStolen_8 rfl rfl (Nat.le_of_ble_eq_true rfl) ⟨Nat.le_of_ble_eq_true rfl, Nat.le_of_ble_eq_true rfl⟩ ⟨Nat.le_of_ble_eq_true rfl, Nat.le_of_ble_eq_true rfl⟩ (c_X10_in l Y N0 ad sh (zm_mix u g0) k 0 ((u 0 2) - 1)) (fun v9 ad9 sh9 g9 H locs hp hW => ?_)
  rcases hp with ⟨rfl, rfl, rfl, ⟨h_1, h9⟩ | ⟨h_1, h9⟩⟩
  · subst h9
    have h_1 : zi_in k 0 ((u 0 2) - 1).toInt := h_1
    refine zr_if_eq (a := 1) (tgt := 27) X dX10_isStolen_11 (by decide) (by decide) (fun c9 => absurd c9 (by decide)) (fun _ => ?_)
    refine lv_aload_n X.1 X.2.1 dX10_isStolen_14 rfl (lv_at hl 0 rfl) ?_
    refine zr_get (v := .ref (ad 4)) X hW fs_X10_16_9 dX10_isStolen_15 (zm_s0 hM) rfl rfl rfl ?_
    refine lv_iload_n X.1 X.2.1 dX10_isStolen_18 rfl (lv_at hl 1 rfl) ?_
    refine zr_zald (v := u 4 (zn k)) X hW dX10_isStolen_19 (zm_s4 hM) rfl rfl (zi_vp (by omega)) rfl ?_
    refine zr_if_eq (a := (u 4 (zn k)).toInt) (tgt := 27) X dX10_isStolen_20 (by decide) rfl (fun c_2 => ?_) (fun c_2 => ?_)
    · refine lv_iconst (v := 0) X.1 X.2.1 dX10_isStolen_27 (by decide) ?_
      exact zr_zret X hW dX10_isStolen_28 (Nat.le_refl _) (Nat.le_refl _) rfl ⟨rfl, rfl, rfl, Or.inr ⟨by first | omega | (have h9 := zI_st hI (zn k) (by rw [zi_n]; omega); rw [zi_0] at *; omega), rfl⟩⟩
    · refine lv_iconst (v := 1) X.1 X.2.1 dX10_isStolen_23 (by decide) ?_
      refine lv_goto (tgt := 28) X.1 X.2.1 dX10_isStolen_24 (by decide) ?_
      exact zr_zret X hW dX10_isStolen_28 (Nat.le_refl _) (Nat.le_refl _) rfl ⟨rfl, rfl, rfl, Or.inl ⟨by first | omega | (have h9 := zI_st hI (zn k) (by rw [zi_n]; omega); rw [zi_0] at *; omega), rfl⟩⟩
  · subst h9
    have h_1 : ¬ (zi_in k 0 ((u 0 2) - 1).toInt) := h_1
    refine zr_if_eq (a := 0) (tgt := 27) X dX10_isStolen_11 (by decide) (by decide) (fun _ => ?_) (fun c9 => absurd c9 (by decide))
    refine lv_iconst (v := 0) X.1 X.2.1 dX10_isStolen_27 (by decide) ?_
    exact zr_zret X hW dX10_isStolen_28 (Nat.le_refl _) (Nat.le_refl _) rfl ⟨rfl, rfl, rfl, Or.inr ⟨by first | omega | (have h9 := zI_st hI (zn k) (by rw [zi_n]; omega); rw [zi_0] at *; omega), rfl⟩⟩
