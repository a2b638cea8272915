theorem zs_kple (u : zm_T) : ∀ k : Nat, (zs_kp u k).1 ≤ k
  | 0 => Nat.le_refl 0
  | k + 1 => by
    have ih := zs_kple u k
    unfold zs_kp
    split
    · exact Nat.succ_le_succ ih
    · exact Nat.le_succ_of_le ih
theorem zs_kpk (u : zm_T) : ∀ (k j : Nat), k ≤ j → (zs_kp u k).2 j = u 29 j
  | 0, j, _ => rfl
  | k + 1, j, h => by
    have ih := zs_kpk u k j (by omega)
    have hl := zs_kple u k
    unfold zs_kp
    split
    · show upd (zs_kp u k).2 (zs_kp u k).1 (u 29 k) j = u 29 j
      unfold upd
      rw [if_neg (by omega)]
      exact ih
    · exact ih
theorem zs_kpQ (u : zm_T) (P : Int32 → Prop) : ∀ k : Nat, (∀ j, j < k → P (u 29 j)) → ∀ j, j < (zs_kp u k).1 → P ((zs_kp u k).2 j)
  | 0, _, j, h => by exact absurd h (Nat.not_lt_zero j)
  | k + 1, hP, j, h => by
    have ih := zs_kpQ u P k (fun j hj => hP j (by omega))
    unfold zs_kp at h ⊢
    split at h
    · rename_i hc
      rw [if_pos hc]
      show P (upd (zs_kp u k).2 (zs_kp u k).1 (u 29 k) j)
      unfold upd
      have h : j < (zs_kp u k).1 + 1 := h
      by_cases hj : j = (zs_kp u k).1
      · rw [if_pos hj]; exact hP k (by omega)
      · rw [if_neg hj]; exact ih j (by omega)
    · rename_i hc
      rw [if_neg hc]
      exact ih j h
theorem zI_fo {u : zm_T} (h : zm_I u) : zm_I (zs_fo u) := by
  have hca := zI_ca h
  have hle := zs_kple u (zn (u 0 28))
  have hz := zi_n (u 0 28)
  have e28 : (zs_fo u 0 28).toInt = ((zs_kp u (zn (u 0 28))).1 : Int) := by
    show (zm_w _ 0 28 _ 0 28).toInt = _
    rw [zm_ws]
    exact nI_toInt (by omega)
  refine ⟨h.1, h.2.1, h.2.2.1, ?_, h.2.2.2.2.1, h.2.2.2.2.2.1, h.2.2.2.2.2.2.1, h.2.2.2.2.2.2.2.1, h.2.2.2.2.2.2.2.2.1, ?_, h.2.2.2.2.2.2.2.2.2.2⟩
  · rw [e28]; omega
  · intro i hi
    rw [e28] at hi
    exact zs_kpQ u (fun x => (0 ≤ x.toInt ∧ x.toInt < (u 0 8).toInt) ∧ (u 9 (zn x)).toInt = 4) (zn (u 0 28)) (fun j hj => zI_cq h j (by omega)) i (by omega)
theorem zs_kps {u : zm_T} {k : Nat} (h : (u 1 1 - u 0 0).toInt ≤ (u 13 (zn (u 29 k))).toInt) : zs_kp u (k + 1) = ((zs_kp u k).1 + 1, upd (zs_kp u k).2 (zs_kp u k).1 (u 29 k)) := if_pos h
theorem zs_kpn {u : zm_T} {k : Nat} (h : ¬ (u 1 1 - u 0 0).toInt ≤ (u 13 (zn (u 29 k))).toInt) : zs_kp u (k + 1) = zs_kp u k := if_neg h
theorem zs_upw (u : zm_T) (F : Nat → Int32) (n : Nat) (x : Int32) : zm_w (va_up u 29 F) 29 n x = va_up u 29 (upd F n x) := by
  unfold zm_w
  rw [bx_uu, va_up_self]

set_option maxHeartbeats 8000000 in
set_option maxRecDepth 100000 in
theorem lp_forgetOld {p : Program} {e : Env} {s : State} {m : MethodId} {below : List Frame} {meth : Method} {c : Code} (l : Launch) (Y : zw_Y) (N0 : Nat) (ad : Nat → Nat) (sh : Nat → Option zw_Sh) (u g0 : zm_T) (hM : zm_S sh) (hI : zm_I u) (X : zw_X p m meth c cX10_forgetOld 3 none s ([.ref (ad 0)] : List Value).toArray yX10_forgetOld.cls Y) (hnm : meth.name = yX10_forgetOld.name) :
    ∀ (n : Nat) (k : Nat) (w : zm_T) (H : Heap) (locs : List Loc) (ls : Array Slot), (k : Int) ≤ (u 0 28).toInt → (u 0 28).toInt - k < n → w = va_up u 29 (zs_kp u k).2 → zw_St Y N0 ad sh (zm_mix w g0) s H locs → lv_has ls 3 [(2, .int (nI k)), (1, .int (nI (zs_kp u k).1)), (0, .ref (ad 0))] → W p l e ({ frames := 0, cells := 0, slots := 0, locals := 0 } : Room) s m ([.ref (ad 0)] : List Value).toArray below meth c H locs 0 0 (MQ below (zw_Q Y N0 (zp_G ad sh (fun v g' => v = none ∧ g' = zm_mix (zs_fo u) g0))) ([.ref (ad 0)] : List Value).toArray s 0 0 (fun q => N0 ≤ q)) (F0 m 4 ls []) := by
  have hca := zI_ca hI
  have hse := zI_se hI
  intro n
  induction n with
  | zero => intro k w H locs ls h1 h2; omega
  | succ n ih =>
    intro k w H locs ls hk0 hn hw hW hl
    have hle := zs_kple u k
    refine lv_iload_n X.1 X.2.1 dX10_forgetOld_4 rfl (lv_at hl 0 rfl) ?_
    refine lv_aload_n X.1 X.2.1 dX10_forgetOld_5 rfl (lv_at hl 2 rfl) ?_
    refine zr_get (v := .int (u 0 28)) X hW fs_X10_147_9 dX10_forgetOld_6 (zm_s0 hM) rfl rfl (congrArg Value.int (show w 0 28 = u 0 28 from (by rw [hw]; rfl))) ?_
    refine zr_icmp_ge (a := ((k : Nat) : Int)) (b := (u 0 28).toInt) (tgt := 58) X dX10_forgetOld_9 (by decide) (nI_toInt (by omega)) rfl (fun c_1 => ?_) (fun c_1 => ?_)
    · refine lv_aload_n X.1 X.2.1 dX10_forgetOld_58 rfl (lv_at hl 2 rfl) ?_
      refine lv_iload_n X.1 X.2.1 dX10_forgetOld_59 rfl (lv_at hl 1 rfl) ?_
      refine zr_puti X hW fs_X10_147_9 dX10_forgetOld_60 (zm_s0 hM) rfl rfl rfl rfl (fun H locs hW => ?_)
      have hW : zw_St Y N0 ad sh (zm_mix (zm_w w 0 28 (nI ((zs_kp u k).1))) g0) s H locs := zm_st (by decide) hW
      obtain ⟨u_2, hu_2⟩ : ∃ z : zm_T, z = zm_w w 0 28 (nI ((zs_kp u k).1)) := ⟨_, rfl⟩
      rw [← hu_2] at hW
      have hk : k = zn (u 0 28) := by rw [zi_n]; omega
      have e9 : u_2 = zs_fo u := by rw [hu_2, hw, hk]; rfl
      exact zr_vret X hW dX10_forgetOld_63 (Nat.le_refl _) (Nat.le_refl _) ⟨rfl, rfl, rfl, by rw [e9]⟩
    · have hcq := zI_cq hI k (by omega)
      refine lv_aload_n X.1 X.2.1 dX10_forgetOld_12 rfl (lv_at hl 2 rfl) ?_
      refine zr_get (v := .ref (ad 13)) X hW fs_X10_41_9 dX10_forgetOld_13 (zm_s0 hM) rfl rfl rfl ?_
      refine lv_aload_n X.1 X.2.1 dX10_forgetOld_16 rfl (lv_at hl 2 rfl) ?_
      refine zr_get (v := .ref (ad 29)) X hW fs_X10_80_9 dX10_forgetOld_17 (zm_s0 hM) rfl rfl rfl ?_
      refine lv_iload_n X.1 X.2.1 dX10_forgetOld_20 rfl (lv_at hl 0 rfl) ?_
      have hx_3 := nI_clamp (n := k) (by omega)
      refine zr_iald (v := u 29 k) X hW dX10_forgetOld_21 (zm_s29 hM) rfl rfl (zi_vp (by rw [nI_toInt (by omega)]; omega)) ((show zm_mix w g0 29 (nI (k) : Int32).toNatClampNeg = w 29 k from (by rw [hx_3]; rfl)).trans (show w 29 k = u 29 k from (by rw [hw]; exact zs_kpk u k k (Nat.le_refl k)))) ?_
      refine zr_iald (v := u 13 (zn (u 29 k))) X hW dX10_forgetOld_22 (zm_s13 hM) rfl rfl (zi_vp (by omega)) ((show zm_mix w g0 13 (u 29 k : Int32).toNatClampNeg = w 13 (zn (u 29 k)) from rfl).trans (show w 13 (zn (u 29 k)) = u 13 (zn (u 29 k)) from (by rw [hw]; rfl))) ?_
      refine lv_aload_n X.1 X.2.1 dX10_forgetOld_23 rfl (lv_at hl 2 rfl) ?_
      refine zr_get (v := .ref (ad 1)) X hW fs_X10_7_9 dX10_forgetOld_24 (zm_s0 hM) rfl rfl rfl ?_
      refine lv_iconst (v := 1) X.1 X.2.1 dX10_forgetOld_27 (by decide) ?_
      refine zr_iald (v := u 1 1) X hW dX10_forgetOld_28 (zm_s1 hM) rfl rfl (zi_vp (by decide)) ((show zm_mix w g0 1 (1 : Int32).toNatClampNeg = w 1 1 from rfl).trans (show w 1 1 = u 1 1 from (by rw [hw]; rfl))) ?_
      refine lv_aload_n X.1 X.2.1 dX10_forgetOld_29 rfl (lv_at hl 2 rfl) ?_
      refine zr_get (v := .int (u 0 0)) X hW fs_X10_83_9 dX10_forgetOld_30 (zm_s0 hM) rfl rfl (congrArg Value.int (show w 0 0 = u 0 0 from (by rw [hw]; rfl))) ?_
      refine lv_isub X.1 X.2.1 dX10_forgetOld_33 ?_
      refine zr_icmp_lt (a := (u 13 (zn (u 29 k))).toInt) (b := ((u 1 1) - (u 0 0)).toInt) (tgt := 52) X dX10_forgetOld_34 (by decide) rfl rfl (fun c_4 => ?_) (fun c_4 => ?_)
      · refine lv_iinc (v := nI (k + 1)) (lv' := [(2, .int (nI (k + 1))), (1, .int (nI ((zs_kp u k).1))), (0, .ref (ad 0))]) X.1 X.2.1 dX10_forgetOld_52 hl (k := 0) rfl (nI_add k 1) (by decide) rfl (fun ls hl => ?_)
        refine lv_goto (tgt := 4) X.1 X.2.1 dX10_forgetOld_55 (by decide) ?_
        have ek := zs_kpn (u := u) (k := k) (by omega)
        refine ih (k + 1) _ _ _ _ (by omega) (by omega) (by rw [hw, ek]) hW ?_
        rw [ek]
        exact lv_sub hl [0, 1, 2] rfl
      · refine lv_aload_n X.1 X.2.1 dX10_forgetOld_37 rfl (lv_at hl 2 rfl) ?_
        refine zr_get (v := .ref (ad 29)) X hW fs_X10_80_9 dX10_forgetOld_38 (zm_s0 hM) rfl rfl rfl ?_
        refine lv_iload_n X.1 X.2.1 dX10_forgetOld_41 rfl (lv_at hl 1 rfl) ?_
        refine lv_aload_n X.1 X.2.1 dX10_forgetOld_42 rfl (lv_at hl 2 rfl) ?_
        refine zr_get (v := .ref (ad 29)) X hW fs_X10_80_9 dX10_forgetOld_43 (zm_s0 hM) rfl rfl rfl ?_
        refine lv_iload_n X.1 X.2.1 dX10_forgetOld_46 rfl (lv_at hl 0 rfl) ?_
        have hx_5 := nI_clamp (n := k) (by omega)
        refine zr_iald (v := u 29 k) X hW dX10_forgetOld_47 (zm_s29 hM) rfl rfl (zi_vp (by rw [nI_toInt (by omega)]; omega)) ((show zm_mix w g0 29 (nI (k) : Int32).toNatClampNeg = w 29 k from (by rw [hx_5]; rfl)).trans (show w 29 k = u 29 k from (by rw [hw]; exact zs_kpk u k k (Nat.le_refl k)))) ?_
        have hx_6 := nI_clamp (n := (zs_kp u k).1) (by omega)
        refine zr_iast X hW dX10_forgetOld_48 (zm_s29 hM) rfl rfl (zi_vp (by rw [nI_toInt (by omega)]; omega)) (fun H locs hW => ?_)
        rw [hx_6] at hW
        have hW : zw_St Y N0 ad sh (zm_mix (zm_w w 29 ((zs_kp u k).1) (u 29 k)) g0) s H locs := zm_st (by decide) hW
        obtain ⟨u_7, hu_7⟩ : ∃ z : zm_T, z = zm_w w 29 ((zs_kp u k).1) (u 29 k) := ⟨_, rfl⟩
        rw [← hu_7] at hW
        refine lv_iinc (v := nI (((zs_kp u k).1) + 1)) (lv' := [(1, .int (nI (((zs_kp u k).1) + 1))), (2, .int (nI (k))), (0, .ref (ad 0))]) X.1 X.2.1 dX10_forgetOld_49 hl (k := 1) rfl (nI_add ((zs_kp u k).1) 1) (by decide) rfl (fun ls hl => ?_)
        refine lv_iinc (v := nI (k + 1)) (lv' := [(2, .int (nI (k + 1))), (1, .int (nI (((zs_kp u k).1) + 1))), (0, .ref (ad 0))]) X.1 X.2.1 dX10_forgetOld_52 hl (k := 1) rfl (nI_add k 1) (by decide) rfl (fun ls hl => ?_)
        refine lv_goto (tgt := 4) X.1 X.2.1 dX10_forgetOld_55 (by decide) ?_
        have ek := zs_kps (u := u) (k := k) (by omega)
        refine ih (k + 1) _ _ _ _ (by omega) (by omega) (by rw [hu_7, hw, ek, zs_upw]) hW ?_
        rw [ek]
        exact lv_sub hl [0, 1, 2] rfl

set_option maxHeartbeats 4000000 in
set_option maxRecDepth 100000 in
theorem c_X10_forgetOld (l : Launch) (Y : zw_Y) (N0 : Nat) (ad : Nat → Nat) (sh : Nat → Option zw_Sh) (u g0 : zm_T) (hM : zm_S sh) (hI : zm_I u) : zw_Met l Y N0 yX10_forgetOld cX10_forgetOld 3 none 0 0 0 0 ad sh (zm_mix u g0) [.ref (ad 0)] (zp_G ad sh (fun v g' => v = none ∧ g' = zm_mix (zs_fo u) g0)) := by
  refine zw_meth (by decide) (Nat.le_of_ble_eq_true rfl) ?_
  intro p e s m below meth c ls X hnm hl hW
  have hl : lv_has ls 3 [(0, .ref (ad 0))] := hl
  refine lv_iconst (v := 0) X.1 X.2.1 dX10_forgetOld_0 (by decide) ?_
  refine lv_istore_n (lv' := [(1, .int 0), (0, .ref (ad 0))]) X.1 X.2.1 dX10_forgetOld_1 rfl hl (by decide) rfl (fun ls hl => ?_)
  refine lv_iconst (v := 0) X.1 X.2.1 dX10_forgetOld_2 (by decide) ?_
  refine lv_istore_n (lv' := [(2, .int 0), (1, .int 0), (0, .ref (ad 0))]) X.1 X.2.1 dX10_forgetOld_3 rfl hl (by decide) rfl (fun ls hl => ?_)
  have hca := zI_ca hI
  exact lp_forgetOld l Y N0 ad sh u g0 hM hI X hnm 13 0 u _ _ _ (by omega) (by omega) (zw_up_same rfl).symm hW (lv_sub hl [0, 1, 2] rfl)

set_option maxHeartbeats 8000000 in
set_option maxRecDepth 100000 in
theorem lp_serve {p : Program} {e : Env} {s : State} {m : MethodId} {below : List Frame} {meth : Method} {c : Code} (l : Launch) (Y : zw_Y) (N0 : Nat) (ad : Nat → Nat) (sh : Nat → Option zw_Sh) (v g0 : zm_T) (hM : zm_S sh) (k cl : Int32) (hI : zm_I v) (h1 : zs_op v (v 3 1) k 2) (h2 : zs_op v (v 12 (zn k)) cl 4) (h3 : (v 11 (zn cl)).toInt = (v 11 (zn k)).toInt) (h4 : ¬ (v 16 (zn cl)).toInt = 0) (h5 : zs_nr v (v 13 (zn cl)) (v 1 1)) (h6 : (v 1 1).toInt ≤ (v 14 (zn k)).toInt) (h7 : (v 13 (zn k)).toInt ≤ (v 1 1 + v 0 0).toInt) (X : zw_X p m meth c cX10_serve 7 (some .int) s ([.ref (ad 0), .int k, .int cl] : List Value).toArray yX10_serve.cls Y) (hnm : meth.name = yX10_serve.name) :
    ∀ (n : Nat) (j : Nat) (b : Int32) (H : Heap) (locs : List Loc) (ls : Array Slot), (j : Int) ≤ (v 0 28).toInt → (v 0 28).toInt - j < n → ((b = 1 ∧ zs_rep v (zn cl) j = true) ∨ (b = 0 ∧ zs_rep v (zn cl) j = false)) → zw_St Y N0 ad sh (zm_mix v g0) s H locs → lv_has ls 7 [(5, .int (nI j)), (4, .int b), (3, .int (v 11 (zn k))), (0, .ref (ad 0)), (1, .int k), (2, .int cl)] → W p l e ({ frames := 2, cells := 0, slots := 0, locals := 45 } : Room) s m ([.ref (ad 0), .int k, .int cl] : List Value).toArray below meth c H locs 0 0 (MQ below (zw_Q Y N0 (zp_S ad sh g0 (sp_serve1 k cl v))) ([.ref (ad 0), .int k, .int cl] : List Value).toArray s 0 0 (fun q => N0 ≤ q)) (F0 m 132 ls []) := by
  have hca := zI_ca hI
  have hse := zI_se hI
  have hscl := zI_sl hI (zn cl) (by rw [zi_n]; omega)
  intro n
  induction n with
  | zero => intro j b H locs ls g1 g2; omega
  | succ n ih =>
    intro j b H locs ls hj0 hn hb hW hl
    rcases hb with ⟨hb0, hb⟩ | ⟨hb0, hb⟩
    · subst hb0
      refine lv_iload X.1 X.2.1 dX10_serve_132 (lv_at hl 0 rfl) ?_
      refine lv_aload_n X.1 X.2.1 dX10_serve_134 rfl (lv_at hl 3 rfl) ?_
      refine zr_get (v := .int (v 0 28)) X hW fs_X10_147_9 dX10_serve_135 (zm_s0 hM) rfl rfl rfl ?_
      refine zr_icmp_ge (a := ((j : Nat) : Int)) (b := (v 0 28).toInt) (tgt := 174) X dX10_serve_138 (by decide) (nI_toInt (by omega)) rfl (fun c_1 => ?_) (fun c_1 => ?_)
      · have hj : j = zn (v 0 28) := by rw [zi_n]; omega
        subst hj
        refine lv_iload X.1 X.2.1 dX10_serve_174 (lv_at hl 1 rfl) ?_
        refine zr_if_eq (a := 1) (tgt := 182) X dX10_serve_176 (by decide) (by decide) (fun c9 => absurd c9 (by decide)) (fun _ => ?_)
        refine lv_bipush (v := (-5)) X.1 X.2.1 dX10_serve_179 (by decide) ?_
        have e9 : sp_serve1 k cl v = ((-5), v) := (by unfold sp_serve1; (repeat (first | refine (if_pos (by first | omega | exact hb)).trans ?_ | refine (if_neg (by first | omega | (rw [hb]; decide))).trans ?_)); rfl)
        exact zr_iret X hW dX10_serve_181 (Nat.le_refl _) (Nat.le_refl _) ⟨rfl, rfl, by rw [e9], by rw [e9]⟩
      · have hcq := zI_cq hI j (by omega)
        refine lv_iload X.1 X.2.1 dX10_serve_141 (lv_at hl 1 rfl) ?_
        refine zr_if_ne (a := 1) (tgt := 161) X dX10_serve_143 (by decide) (by decide) (fun _ => ?_) (fun c9 => absurd c9 (by decide))
        refine lv_iconst (v := 1) X.1 X.2.1 dX10_serve_161 (by decide) ?_
        refine lv_goto (tgt := 166) X.1 X.2.1 dX10_serve_162 (by decide) ?_
        refine lv_istore (lv' := [(4, .int 1), (5, .int (nI (j))), (3, .int (v 11 (zn k))), (0, .ref (ad 0)), (1, .int k), (2, .int cl)]) X.1 X.2.1 dX10_serve_166 hl (by decide) rfl (fun ls hl => ?_)
        refine lv_iinc (v := nI (j + 1)) (lv' := [(5, .int (nI (j + 1))), (4, .int 1), (3, .int (v 11 (zn k))), (0, .ref (ad 0)), (1, .int k), (2, .int cl)]) X.1 X.2.1 dX10_serve_168 hl (k := 1) rfl (nI_add j 1) (by decide) rfl (fun ls hl => ?_)
        refine lv_goto (tgt := 132) X.1 X.2.1 dX10_serve_171 (by decide) ?_
        exact ih (j + 1) 1 _ _ _ (by omega) (by omega) (Or.inl ⟨rfl, (by show (zs_rep v (zn cl) j || _) = true; rw [hb]; rfl)⟩) hW (lv_sub hl [0, 1, 2, 3, 4, 5] rfl)
    · subst hb0
      refine lv_iload X.1 X.2.1 dX10_serve_132 (lv_at hl 0 rfl) ?_
      refine lv_aload_n X.1 X.2.1 dX10_serve_134 rfl (lv_at hl 3 rfl) ?_
      refine zr_get (v := .int (v 0 28)) X hW fs_X10_147_9 dX10_serve_135 (zm_s0 hM) rfl rfl rfl ?_
      refine zr_icmp_ge (a := ((j : Nat) : Int)) (b := (v 0 28).toInt) (tgt := 174) X dX10_serve_138 (by decide) (nI_toInt (by omega)) rfl (fun c_2 => ?_) (fun c_2 => ?_)
      · have hj : j = zn (v 0 28) := by rw [zi_n]; omega
        subst hj
        refine lv_iload X.1 X.2.1 dX10_serve_174 (lv_at hl 1 rfl) ?_
        refine zr_if_eq (a := 0) (tgt := 182) X dX10_serve_176 (by decide) (by decide) (fun _ => ?_) (fun c9 => absurd c9 (by decide))
        refine lv_aload_n X.1 X.2.1 dX10_serve_182 rfl (lv_at hl 3 rfl) ?_
        refine zr_get (v := .ref (ad 17)) X hW fs_X10_53_9 dX10_serve_183 (zm_s0 hM) rfl rfl rfl ?_
        refine lv_iload_n X.1 X.2.1 dX10_serve_186 rfl (lv_at hl 5 rfl) ?_
        refine zr_iald (v := v 17 (zn cl)) X hW dX10_serve_187 (zm_s17 hM) rfl rfl (zi_vp (by omega)) rfl ?_
        refine lv_istore (lv' := [(5, .int (v 17 (zn cl))), (4, .int 0), (3, .int (v 11 (zn k))), (0, .ref (ad 0)), (1, .int k), (2, .int cl)]) X.1 X.2.1 dX10_serve_188 hl (by decide) rfl (fun ls hl => ?_)
        refine lv_aload_n X.1 X.2.1 dX10_serve_190 rfl (lv_at hl 3 rfl) ?_
        refine lv_iload_n X.1 X.2.1 dX10_serve_191 rfl (lv_at hl 2 rfl) ?_
        refine zr_callV (As := [.int (v 11 (zn k))]) (rest := []) X hW hl.1 md_X10_booked ms_X10_94 dX10_serve_192 (zm_s0 hM) rfl rfl rfl rfl (Nat.le_of_ble_eq_true rfl) ⟨Nat.le_of_ble_eq_true rfl, Nat.le_of_ble_eq_true rfl⟩ ⟨Nat.le_of_ble_eq_true rfl, Nat.le_of_ble_eq_true rfl⟩ (c_X10_booked l Y N0 ad sh v g0 hM (v 11 (zn k))) (fun v9 ad9 sh9 g9 H locs hp hW => ?_)
        rcases hp with ⟨rfl, rfl, rfl, ⟨h_3, h9⟩ | ⟨h_3, h9⟩⟩
        · subst h9
          have h_3 : zs_bk v (v 11 (zn k)) := h_3
          refine zr_if_eq (a := 1) (tgt := 212) X dX10_serve_195 (by decide) (by decide) (fun c9 => absurd c9 (by decide)) (fun _ => ?_)
          refine lv_aload_n X.1 X.2.1 dX10_serve_198 rfl (lv_at hl 3 rfl) ?_
          refine zr_get (v := .ref (ad 7)) X hW fs_X10_26_9 dX10_serve_199 (zm_s0 hM) rfl rfl rfl ?_
          refine lv_iconst (v := 3) X.1 X.2.1 dX10_serve_202 (by decide) ?_
          refine lv_iload_n X.1 X.2.1 dX10_serve_203 rfl (lv_at hl 2 rfl) ?_
          refine lv_imul X.1 X.2.1 dX10_serve_204 ?_
          refine lv_iload X.1 X.2.1 dX10_serve_205 (lv_at hl 0 rfl) ?_
          refine lv_iadd X.1 X.2.1 dX10_serve_207 ?_
          have hx_4 := zi_ix3 ((v 11 (zn k))) ((v 17 (zn cl))) (by omega) (by omega)
          obtain ⟨hx_4, hx_4n⟩ := hx_4
          refine zr_iald (v := v 7 (3 * zn ((v 11 (zn k))) + zn ((v 17 (zn cl))))) X hW dX10_serve_208 (zm_s7 hM) rfl rfl (zi_vp (by omega)) (by rw [hx_4n]; rfl) ?_
          refine lv_goto (tgt := 213) X.1 X.2.1 dX10_serve_209 (by decide) ?_
          refine lv_istore (lv' := [(6, .int (v 7 (3 * zn ((v 11 (zn k))) + zn ((v 17 (zn cl)))))), (5, .int (v 17 (zn cl))), (4, .int 0), (3, .int (v 11 (zn k))), (0, .ref (ad 0)), (1, .int k), (2, .int cl)]) X.1 X.2.1 dX10_serve_213 hl (by decide) rfl (fun ls hl => ?_)
          have hm : zs_may v (v 11 (zn k)) (zn (v 17 (zn cl))) = v 7 (3 * zn ((v 11 (zn k))) + zn ((v 17 (zn cl)))) := if_pos h_3
          refine lv_iload X.1 X.2.1 dX10_serve_215 (lv_at hl 0 rfl) ?_
          refine lv_aload_n X.1 X.2.1 dX10_serve_217 rfl (lv_at hl 4 rfl) ?_
          refine zr_get (v := .ref (ad 16)) X hW fs_X10_50_9 dX10_serve_218 (zm_s0 hM) rfl rfl rfl ?_
          refine lv_iload_n X.1 X.2.1 dX10_serve_221 rfl (lv_at hl 6 rfl) ?_
          refine zr_iald (v := v 16 (zn cl)) X hW dX10_serve_222 (zm_s16 hM) rfl rfl (zi_vp (by omega)) rfl ?_
          refine lv_iand X.1 X.2.1 dX10_serve_223 ?_
          refine lv_aload_n X.1 X.2.1 dX10_serve_224 rfl (lv_at hl 4 rfl) ?_
          refine zr_get (v := .ref (ad 16)) X hW fs_X10_50_9 dX10_serve_225 (zm_s0 hM) rfl rfl rfl ?_
          refine lv_iload_n X.1 X.2.1 dX10_serve_228 rfl (lv_at hl 6 rfl) ?_
          refine zr_iald (v := v 16 (zn cl)) X hW dX10_serve_229 (zm_s16 hM) rfl rfl (zi_vp (by omega)) rfl ?_
          refine zr_icmp_eq (a := ((v 7 (3 * zn ((v 11 (zn k))) + zn ((v 17 (zn cl))))) &&& (v 16 (zn cl))).toInt) (b := (v 16 (zn cl)).toInt) (tgt := 236) X dX10_serve_230 (by decide) rfl rfl (fun c_5 => ?_) (fun c_5 => ?_)
          · refine lv_aload_n X.1 X.2.1 dX10_serve_236 rfl (lv_at hl 4 rfl) ?_
            refine zr_get (v := .int (v 0 28)) X hW fs_X10_147_9 dX10_serve_237 (zm_s0 hM) rfl rfl rfl ?_
            refine lv_bipush (v := 12) X.1 X.2.1 dX10_serve_240 (by decide) ?_
            refine zr_icmp_ne (a := (v 0 28).toInt) (b := 12) (tgt := 248) X dX10_serve_242 (by decide) rfl (by decide) (fun c_6 => ?_) (fun c_6 => ?_)
            · refine lv_aload_n X.1 X.2.1 dX10_serve_248 rfl (lv_at hl 4 rfl) ?_
              refine zr_get (v := .ref (ad 29)) X hW fs_X10_80_9 dX10_serve_249 (zm_s0 hM) rfl rfl rfl ?_
              refine lv_aload_n X.1 X.2.1 dX10_serve_252 rfl (lv_at hl 4 rfl) ?_
              refine zr_get (v := .int (v 0 28)) X hW fs_X10_147_9 dX10_serve_253 (zm_s0 hM) rfl rfl rfl ?_
              refine lv_iload_n X.1 X.2.1 dX10_serve_256 rfl (lv_at hl 6 rfl) ?_
              refine zr_iast X hW dX10_serve_257 (zm_s29 hM) rfl rfl (zi_vp (by omega)) (fun H locs hW => ?_)
              have hW : zw_St Y N0 ad sh (zm_mix (zm_w v 29 (zn (v 0 28)) cl) g0) s H locs := zm_st (by decide) hW
              obtain ⟨u_7, hu_7⟩ : ∃ z : zm_T, z = zm_w v 29 (zn (v 0 28)) cl := ⟨_, rfl⟩
              rw [← hu_7] at hW
              refine lv_aload_n X.1 X.2.1 dX10_serve_258 rfl (lv_at hl 4 rfl) ?_
              refine lv_dup X.1 X.2.1 dX10_serve_259 rfl ?_
              refine zr_get (v := .int (v 0 28)) X hW fs_X10_147_9 dX10_serve_260 (zm_s0 hM) rfl rfl (congrArg Value.int (show u_7 0 28 = v 0 28 from (by rw [hu_7]; rfl))) ?_
              refine lv_iconst (v := 1) X.1 X.2.1 dX10_serve_263 (by decide) ?_
              refine lv_iadd X.1 X.2.1 dX10_serve_264 ?_
              refine zr_puti X hW fs_X10_147_9 dX10_serve_265 (zm_s0 hM) rfl rfl rfl rfl (fun H locs hW => ?_)
              have hW : zw_St Y N0 ad sh (zm_mix (zm_w u_7 0 28 ((v 0 28) + 1)) g0) s H locs := zm_st (by decide) hW
              obtain ⟨u_8, hu_8⟩ : ∃ z : zm_T, z = zm_w u_7 0 28 ((v 0 28) + 1) := ⟨_, rfl⟩
              rw [← hu_8] at hW
              refine lv_aload_n X.1 X.2.1 dX10_serve_268 rfl (lv_at hl 4 rfl) ?_
              refine zr_get (v := .ref (ad 26)) X hW fs_X10_77_9 dX10_serve_269 (zm_s0 hM) rfl rfl rfl ?_
              refine lv_iload X.1 X.2.1 dX10_serve_272 (lv_at hl 1 rfl) ?_
              refine lv_aload_n X.1 X.2.1 dX10_serve_274 rfl (lv_at hl 4 rfl) ?_
              refine zr_get (v := .ref (ad 16)) X hW fs_X10_50_9 dX10_serve_275 (zm_s0 hM) rfl rfl rfl ?_
              refine lv_iload_n X.1 X.2.1 dX10_serve_278 rfl (lv_at hl 6 rfl) ?_
              refine zr_iald (v := v 16 (zn cl)) X hW dX10_serve_279 (zm_s16 hM) rfl rfl (zi_vp (by omega)) ((show zm_mix u_8 g0 16 (cl : Int32).toNatClampNeg = u_8 16 (zn cl) from rfl).trans ((show u_8 16 (zn cl) = u_7 16 (zn cl) from (by rw [hu_8]; rfl)).trans (show u_7 16 (zn cl) = v 16 (zn cl) from (by rw [hu_7]; rfl)))) ?_
              refine lv_iconst (v := 2) X.1 X.2.1 dX10_serve_280 (by decide) ?_
              refine zr_icmp_ne (a := (v 16 (zn cl)).toInt) (b := 2) (tgt := 293) X dX10_serve_281 (by decide) rfl (by decide) (fun c_9 => ?_) (fun c_9 => ?_)
              · refine lv_aload_n X.1 X.2.1 dX10_serve_293 rfl (lv_at hl 4 rfl) ?_
                refine zr_get (v := .ref (ad 16)) X hW fs_X10_50_9 dX10_serve_294 (zm_s0 hM) rfl rfl rfl ?_
                refine lv_iload_n X.1 X.2.1 dX10_serve_297 rfl (lv_at hl 6 rfl) ?_
                refine zr_iald (v := v 16 (zn cl)) X hW dX10_serve_298 (zm_s16 hM) rfl rfl (zi_vp (by omega)) ((show zm_mix u_8 g0 16 (cl : Int32).toNatClampNeg = u_8 16 (zn cl) from rfl).trans ((show u_8 16 (zn cl) = u_7 16 (zn cl) from (by rw [hu_8]; rfl)).trans (show u_7 16 (zn cl) = v 16 (zn cl) from (by rw [hu_7]; rfl)))) ?_
                refine lv_iconst (v := 3) X.1 X.2.1 dX10_serve_299 (by decide) ?_
                refine zr_icmp_ne (a := (v 16 (zn cl)).toInt) (b := 3) (tgt := 320) X dX10_serve_300 (by decide) rfl (by decide) (fun c_10 => ?_) (fun c_10 => ?_)
                · refine lv_aload_n X.1 X.2.1 dX10_serve_320 rfl (lv_at hl 4 rfl) ?_
                  refine zr_get (v := .ref (ad 26)) X hW fs_X10_77_9 dX10_serve_321 (zm_s0 hM) rfl rfl rfl ?_
                  refine lv_iload X.1 X.2.1 dX10_serve_324 (lv_at hl 1 rfl) ?_
                  refine zr_iald (v := v 26 (zn (v 17 (zn cl)))) X hW dX10_serve_326 (zm_s26 hM) rfl rfl (zi_vp (by omega)) ((show zm_mix u_8 g0 26 (v 17 (zn cl) : Int32).toNatClampNeg = u_8 26 (zn (v 17 (zn cl))) from rfl).trans ((show u_8 26 (zn (v 17 (zn cl))) = u_7 26 (zn (v 17 (zn cl))) from (by rw [hu_8]; rfl)).trans (show u_7 26 (zn (v 17 (zn cl))) = v 26 (zn (v 17 (zn cl))) from (by rw [hu_7]; rfl)))) ?_
                  refine zr_iast X hW dX10_serve_327 (zm_s26 hM) rfl rfl (zi_vp (by omega)) (fun H locs hW => ?_)
                  have hW : zw_St Y N0 ad sh (zm_mix (zm_w u_8 26 (zn (v 17 (zn cl))) (v 26 (zn (v 17 (zn cl))))) g0) s H locs := zm_st (by decide) hW
                  obtain ⟨u_11, hu_11⟩ : ∃ z : zm_T, z = zm_w u_8 26 (zn (v 17 (zn cl))) (v 26 (zn (v 17 (zn cl)))) := ⟨_, rfl⟩
                  rw [← hu_11] at hW
                  refine lv_aload_n X.1 X.2.1 dX10_serve_328 rfl (lv_at hl 4 rfl) ?_
                  refine lv_aload_n X.1 X.2.1 dX10_serve_329 rfl (lv_at hl 4 rfl) ?_
                  refine zr_get (v := .ref (ad 26)) X hW fs_X10_77_9 dX10_serve_330 (zm_s0 hM) rfl rfl rfl ?_
                  refine lv_iload X.1 X.2.1 dX10_serve_333 (lv_at hl 1 rfl) ?_
                  refine zr_iald (v := v 26 (zn (v 17 (zn cl)))) X hW dX10_serve_335 (zm_s26 hM) rfl rfl (zi_vp (by omega)) ((show zm_mix u_11 g0 26 (v 17 (zn cl) : Int32).toNatClampNeg = u_11 26 (zn (v 17 (zn cl))) from rfl).trans (show u_11 26 (zn (v 17 (zn cl))) = v 26 (zn (v 17 (zn cl))) from (by rw [hu_11]; exact zm_ws _ _ _ _))) ?_
                  refine zr_puti X hW fs_X10_156_9 dX10_serve_336 (zm_s0 hM) rfl rfl rfl rfl (fun H locs hW => ?_)
                  have hW : zw_St Y N0 ad sh (zm_mix (zm_w u_11 0 27 (v 26 (zn (v 17 (zn cl))))) g0) s H locs := zm_st (by decide) hW
                  obtain ⟨u_12, hu_12⟩ : ∃ z : zm_T, z = zm_w u_11 0 27 (v 26 (zn (v 17 (zn cl)))) := ⟨_, rfl⟩
                  rw [← hu_12] at hW
                  refine lv_iconst (v := 0) X.1 X.2.1 dX10_serve_339 (by decide) ?_
                  have e9 : sp_serve1 k cl v = (0, u_12) := (by subst hu_12 hu_11 hu_8 hu_7; unfold sp_serve1; rw [hm]; (repeat (first | refine (if_pos (by first | omega | exact hb)).trans ?_ | refine (if_neg (by first | omega | (rw [hb]; decide))).trans ?_)); first | (rw [show zs_new v (zn cl) = v 18 (zn cl) from if_pos (by omega)] <;> rfl) | (rw [show zs_new v (zn cl) = v 26 (zn (v 17 (zn cl))) + v 18 (zn cl) from (if_neg (by omega)).trans (if_pos (by omega))] <;> rfl) | (rw [show zs_new v (zn cl) = v 26 (zn (v 17 (zn cl))) from (if_neg (by omega)).trans (if_neg (by omega))] <;> rfl))
                  exact zr_iret X hW dX10_serve_340 (Nat.le_refl _) (Nat.le_refl _) ⟨rfl, rfl, by rw [e9], by rw [e9]⟩
                · refine lv_aload_n X.1 X.2.1 dX10_serve_303 rfl (lv_at hl 4 rfl) ?_
                  refine zr_get (v := .ref (ad 26)) X hW fs_X10_77_9 dX10_serve_304 (zm_s0 hM) rfl rfl rfl ?_
                  refine lv_iload X.1 X.2.1 dX10_serve_307 (lv_at hl 1 rfl) ?_
                  refine zr_iald (v := v 26 (zn (v 17 (zn cl)))) X hW dX10_serve_309 (zm_s26 hM) rfl rfl (zi_vp (by omega)) ((show zm_mix u_8 g0 26 (v 17 (zn cl) : Int32).toNatClampNeg = u_8 26 (zn (v 17 (zn cl))) from rfl).trans ((show u_8 26 (zn (v 17 (zn cl))) = u_7 26 (zn (v 17 (zn cl))) from (by rw [hu_8]; rfl)).trans (show u_7 26 (zn (v 17 (zn cl))) = v 26 (zn (v 17 (zn cl))) from (by rw [hu_7]; rfl)))) ?_
                  refine lv_aload_n X.1 X.2.1 dX10_serve_310 rfl (lv_at hl 4 rfl) ?_
                  refine zr_get (v := .ref (ad 18)) X hW fs_X10_56_9 dX10_serve_311 (zm_s0 hM) rfl rfl rfl ?_
                  refine lv_iload_n X.1 X.2.1 dX10_serve_314 rfl (lv_at hl 6 rfl) ?_
                  refine zr_iald (v := v 18 (zn cl)) X hW dX10_serve_315 (zm_s18 hM) rfl rfl (zi_vp (by omega)) ((show zm_mix u_8 g0 18 (cl : Int32).toNatClampNeg = u_8 18 (zn cl) from rfl).trans ((show u_8 18 (zn cl) = u_7 18 (zn cl) from (by rw [hu_8]; rfl)).trans (show u_7 18 (zn cl) = v 18 (zn cl) from (by rw [hu_7]; rfl)))) ?_
                  refine lv_iadd X.1 X.2.1 dX10_serve_316 ?_
                  refine lv_goto (tgt := 327) X.1 X.2.1 dX10_serve_317 (by decide) ?_
                  refine zr_iast X hW dX10_serve_327 (zm_s26 hM) rfl rfl (zi_vp (by omega)) (fun H locs hW => ?_)
                  have hW : zw_St Y N0 ad sh (zm_mix (zm_w u_8 26 (zn (v 17 (zn cl))) ((v 26 (zn (v 17 (zn cl)))) + (v 18 (zn cl)))) g0) s H locs := zm_st (by decide) hW
                  obtain ⟨u_13, hu_13⟩ : ∃ z : zm_T, z = zm_w u_8 26 (zn (v 17 (zn cl))) ((v 26 (zn (v 17 (zn cl)))) + (v 18 (zn cl))) := ⟨_, rfl⟩
                  rw [← hu_13] at hW
                  refine lv_aload_n X.1 X.2.1 dX10_serve_328 rfl (lv_at hl 4 rfl) ?_
                  refine lv_aload_n X.1 X.2.1 dX10_serve_329 rfl (lv_at hl 4 rfl) ?_
                  refine zr_get (v := .ref (ad 26)) X hW fs_X10_77_9 dX10_serve_330 (zm_s0 hM) rfl rfl rfl ?_
                  refine lv_iload X.1 X.2.1 dX10_serve_333 (lv_at hl 1 rfl) ?_
                  refine zr_iald (v := (v 26 (zn (v 17 (zn cl)))) + (v 18 (zn cl))) X hW dX10_serve_335 (zm_s26 hM) rfl rfl (zi_vp (by omega)) ((show zm_mix u_13 g0 26 (v 17 (zn cl) : Int32).toNatClampNeg = u_13 26 (zn (v 17 (zn cl))) from rfl).trans (show u_13 26 (zn (v 17 (zn cl))) = (v 26 (zn (v 17 (zn cl)))) + (v 18 (zn cl)) from (by rw [hu_13]; exact zm_ws _ _ _ _))) ?_
                  refine zr_puti X hW fs_X10_156_9 dX10_serve_336 (zm_s0 hM) rfl rfl rfl rfl (fun H locs hW => ?_)
                  have hW : zw_St Y N0 ad sh (zm_mix (zm_w u_13 0 27 ((v 26 (zn (v 17 (zn cl)))) + (v 18 (zn cl)))) g0) s H locs := zm_st (by decide) hW
                  obtain ⟨u_14, hu_14⟩ : ∃ z : zm_T, z = zm_w u_13 0 27 ((v 26 (zn (v 17 (zn cl)))) + (v 18 (zn cl))) := ⟨_, rfl⟩
                  rw [← hu_14] at hW
                  refine lv_iconst (v := 0) X.1 X.2.1 dX10_serve_339 (by decide) ?_
                  have e9 : sp_serve1 k cl v = (0, u_14) := (by subst hu_14 hu_13 hu_8 hu_7; unfold sp_serve1; rw [hm]; (repeat (first | refine (if_pos (by first | omega | exact hb)).trans ?_ | refine (if_neg (by first | omega | (rw [hb]; decide))).trans ?_)); first | (rw [show zs_new v (zn cl) = v 18 (zn cl) from if_pos (by omega)] <;> rfl) | (rw [show zs_new v (zn cl) = v 26 (zn (v 17 (zn cl))) + v 18 (zn cl) from (if_neg (by omega)).trans (if_pos (by omega))] <;> rfl) | (rw [show zs_new v (zn cl) = v 26 (zn (v 17 (zn cl))) from (if_neg (by omega)).trans (if_neg (by omega))] <;> rfl))
                  exact zr_iret X hW dX10_serve_340 (Nat.le_refl _) (Nat.le_refl _) ⟨rfl, rfl, by rw [e9], by rw [e9]⟩
              · refine lv_aload_n X.1 X.2.1 dX10_serve_284 rfl (lv_at hl 4 rfl) ?_
                refine zr_get (v := .ref (ad 18)) X hW fs_X10_56_9 dX10_serve_285 (zm_s0 hM) rfl rfl rfl ?_
                refine lv_iload_n X.1 X.2.1 dX10_serve_288 rfl (lv_at hl 6 rfl) ?_
                refine zr_iald (v := v 18 (zn cl)) X hW dX10_serve_289 (zm_s18 hM) rfl rfl (zi_vp (by omega)) ((show zm_mix u_8 g0 18 (cl : Int32).toNatClampNeg = u_8 18 (zn cl) from rfl).trans ((show u_8 18 (zn cl) = u_7 18 (zn cl) from (by rw [hu_8]; rfl)).trans (show u_7 18 (zn cl) = v 18 (zn cl) from (by rw [hu_7]; rfl)))) ?_
                refine lv_goto (tgt := 327) X.1 X.2.1 dX10_serve_290 (by decide) ?_
                refine zr_iast X hW dX10_serve_327 (zm_s26 hM) rfl rfl (zi_vp (by omega)) (fun H locs hW => ?_)
                have hW : zw_St Y N0 ad sh (zm_mix (zm_w u_8 26 (zn (v 17 (zn cl))) (v 18 (zn cl))) g0) s H locs := zm_st (by decide) hW
                obtain ⟨u_15, hu_15⟩ : ∃ z : zm_T, z = zm_w u_8 26 (zn (v 17 (zn cl))) (v 18 (zn cl)) := ⟨_, rfl⟩
                rw [← hu_15] at hW
                refine lv_aload_n X.1 X.2.1 dX10_serve_328 rfl (lv_at hl 4 rfl) ?_
                refine lv_aload_n X.1 X.2.1 dX10_serve_329 rfl (lv_at hl 4 rfl) ?_
                refine zr_get (v := .ref (ad 26)) X hW fs_X10_77_9 dX10_serve_330 (zm_s0 hM) rfl rfl rfl ?_
                refine lv_iload X.1 X.2.1 dX10_serve_333 (lv_at hl 1 rfl) ?_
                refine zr_iald (v := v 18 (zn cl)) X hW dX10_serve_335 (zm_s26 hM) rfl rfl (zi_vp (by omega)) ((show zm_mix u_15 g0 26 (v 17 (zn cl) : Int32).toNatClampNeg = u_15 26 (zn (v 17 (zn cl))) from rfl).trans (show u_15 26 (zn (v 17 (zn cl))) = v 18 (zn cl) from (by rw [hu_15]; exact zm_ws _ _ _ _))) ?_
                refine zr_puti X hW fs_X10_156_9 dX10_serve_336 (zm_s0 hM) rfl rfl rfl rfl (fun H locs hW => ?_)
                have hW : zw_St Y N0 ad sh (zm_mix (zm_w u_15 0 27 (v 18 (zn cl))) g0) s H locs := zm_st (by decide) hW
                obtain ⟨u_16, hu_16⟩ : ∃ z : zm_T, z = zm_w u_15 0 27 (v 18 (zn cl)) := ⟨_, rfl⟩
                rw [← hu_16] at hW
                refine lv_iconst (v := 0) X.1 X.2.1 dX10_serve_339 (by decide) ?_
                have e9 : sp_serve1 k cl v = (0, u_16) := (by subst hu_16 hu_15 hu_8 hu_7; unfold sp_serve1; rw [hm]; (repeat (first | refine (if_pos (by first | omega | exact hb)).trans ?_ | refine (if_neg (by first | omega | (rw [hb]; decide))).trans ?_)); first | (rw [show zs_new v (zn cl) = v 18 (zn cl) from if_pos (by omega)] <;> rfl) | (rw [show zs_new v (zn cl) = v 26 (zn (v 17 (zn cl))) + v 18 (zn cl) from (if_neg (by omega)).trans (if_pos (by omega))] <;> rfl) | (rw [show zs_new v (zn cl) = v 26 (zn (v 17 (zn cl))) from (if_neg (by omega)).trans (if_neg (by omega))] <;> rfl))
                exact zr_iret X hW dX10_serve_340 (Nat.le_refl _) (Nat.le_refl _) ⟨rfl, rfl, by rw [e9], by rw [e9]⟩
            · refine lv_bipush (v := (-7)) X.1 X.2.1 dX10_serve_245 (by decide) ?_
              have e9 : sp_serve1 k cl v = ((-7), v) := (by unfold sp_serve1; rw [hm]; (repeat (first | refine (if_pos (by first | omega | exact hb)).trans ?_ | refine (if_neg (by first | omega | (rw [hb]; decide))).trans ?_)); rfl)
              exact zr_iret X hW dX10_serve_247 (Nat.le_refl _) (Nat.le_refl _) ⟨rfl, rfl, by rw [e9], by rw [e9]⟩
          · refine lv_bipush (v := (-6)) X.1 X.2.1 dX10_serve_233 (by decide) ?_
            have e9 : sp_serve1 k cl v = ((-6), v) := (by unfold sp_serve1; rw [hm]; (repeat (first | refine (if_pos (by first | omega | exact hb)).trans ?_ | refine (if_neg (by first | omega | (rw [hb]; decide))).trans ?_)); rfl)
            exact zr_iret X hW dX10_serve_235 (Nat.le_refl _) (Nat.le_refl _) ⟨rfl, rfl, by rw [e9], by rw [e9]⟩
        · subst h9
          have h_3 : ¬ (zs_bk v (v 11 (zn k))) := h_3
          refine zr_if_eq (a := 0) (tgt := 212) X dX10_serve_195 (by decide) (by decide) (fun _ => ?_) (fun c9 => absurd c9 (by decide))
          refine lv_iconst (v := 0) X.1 X.2.1 dX10_serve_212 (by decide) ?_
          refine lv_istore (lv' := [(6, .int 0), (5, .int (v 17 (zn cl))), (4, .int 0), (3, .int (v 11 (zn k))), (0, .ref (ad 0)), (1, .int k), (2, .int cl)]) X.1 X.2.1 dX10_serve_213 hl (by decide) rfl (fun ls hl => ?_)
          have hm : zs_may v (v 11 (zn k)) (zn (v 17 (zn cl))) = 0 := if_neg h_3
          refine lv_iload X.1 X.2.1 dX10_serve_215 (lv_at hl 0 rfl) ?_
          refine lv_aload_n X.1 X.2.1 dX10_serve_217 rfl (lv_at hl 4 rfl) ?_
          refine zr_get (v := .ref (ad 16)) X hW fs_X10_50_9 dX10_serve_218 (zm_s0 hM) rfl rfl rfl ?_
          refine lv_iload_n X.1 X.2.1 dX10_serve_221 rfl (lv_at hl 6 rfl) ?_
          refine zr_iald (v := v 16 (zn cl)) X hW dX10_serve_222 (zm_s16 hM) rfl rfl (zi_vp (by omega)) rfl ?_
          refine lv_iand X.1 X.2.1 dX10_serve_223 ?_
          refine lv_aload_n X.1 X.2.1 dX10_serve_224 rfl (lv_at hl 4 rfl) ?_
          refine zr_get (v := .ref (ad 16)) X hW fs_X10_50_9 dX10_serve_225 (zm_s0 hM) rfl rfl rfl ?_
          refine lv_iload_n X.1 X.2.1 dX10_serve_228 rfl (lv_at hl 6 rfl) ?_
          refine zr_iald (v := v 16 (zn cl)) X hW dX10_serve_229 (zm_s16 hM) rfl rfl (zi_vp (by omega)) rfl ?_
          refine zr_icmp_eq (a := (0 &&& (v 16 (zn cl))).toInt) (b := (v 16 (zn cl)).toInt) (tgt := 236) X dX10_serve_230 (by decide) rfl rfl (fun c_17 => ?_) (fun c_17 => ?_)
          · refine lv_aload_n X.1 X.2.1 dX10_serve_236 rfl (lv_at hl 4 rfl) ?_
            refine zr_get (v := .int (v 0 28)) X hW fs_X10_147_9 dX10_serve_237 (zm_s0 hM) rfl rfl rfl ?_
            refine lv_bipush (v := 12) X.1 X.2.1 dX10_serve_240 (by decide) ?_
            refine zr_icmp_ne (a := (v 0 28).toInt) (b := 12) (tgt := 248) X dX10_serve_242 (by decide) rfl (by decide) (fun c_18 => ?_) (fun c_18 => ?_)
            · refine lv_aload_n X.1 X.2.1 dX10_serve_248 rfl (lv_at hl 4 rfl) ?_
              refine zr_get (v := .ref (ad 29)) X hW fs_X10_80_9 dX10_serve_249 (zm_s0 hM) rfl rfl rfl ?_
              refine lv_aload_n X.1 X.2.1 dX10_serve_252 rfl (lv_at hl 4 rfl) ?_
              refine zr_get (v := .int (v 0 28)) X hW fs_X10_147_9 dX10_serve_253 (zm_s0 hM) rfl rfl rfl ?_
              refine lv_iload_n X.1 X.2.1 dX10_serve_256 rfl (lv_at hl 6 rfl) ?_
              refine zr_iast X hW dX10_serve_257 (zm_s29 hM) rfl rfl (zi_vp (by omega)) (fun H locs hW => ?_)
              have hW : zw_St Y N0 ad sh (zm_mix (zm_w v 29 (zn (v 0 28)) cl) g0) s H locs := zm_st (by decide) hW
              obtain ⟨u_19, hu_19⟩ : ∃ z : zm_T, z = zm_w v 29 (zn (v 0 28)) cl := ⟨_, rfl⟩
              rw [← hu_19] at hW
              refine lv_aload_n X.1 X.2.1 dX10_serve_258 rfl (lv_at hl 4 rfl) ?_
              refine lv_dup X.1 X.2.1 dX10_serve_259 rfl ?_
              refine zr_get (v := .int (v 0 28)) X hW fs_X10_147_9 dX10_serve_260 (zm_s0 hM) rfl rfl (congrArg Value.int (show u_19 0 28 = v 0 28 from (by rw [hu_19]; rfl))) ?_
              refine lv_iconst (v := 1) X.1 X.2.1 dX10_serve_263 (by decide) ?_
              refine lv_iadd X.1 X.2.1 dX10_serve_264 ?_
              refine zr_puti X hW fs_X10_147_9 dX10_serve_265 (zm_s0 hM) rfl rfl rfl rfl (fun H locs hW => ?_)
              have hW : zw_St Y N0 ad sh (zm_mix (zm_w u_19 0 28 ((v 0 28) + 1)) g0) s H locs := zm_st (by decide) hW
              obtain ⟨u_20, hu_20⟩ : ∃ z : zm_T, z = zm_w u_19 0 28 ((v 0 28) + 1) := ⟨_, rfl⟩
              rw [← hu_20] at hW
              refine lv_aload_n X.1 X.2.1 dX10_serve_268 rfl (lv_at hl 4 rfl) ?_
              refine zr_get (v := .ref (ad 26)) X hW fs_X10_77_9 dX10_serve_269 (zm_s0 hM) rfl rfl rfl ?_
              refine lv_iload X.1 X.2.1 dX10_serve_272 (lv_at hl 1 rfl) ?_
              refine lv_aload_n X.1 X.2.1 dX10_serve_274 rfl (lv_at hl 4 rfl) ?_
              refine zr_get (v := .ref (ad 16)) X hW fs_X10_50_9 dX10_serve_275 (zm_s0 hM) rfl rfl rfl ?_
              refine lv_iload_n X.1 X.2.1 dX10_serve_278 rfl (lv_at hl 6 rfl) ?_
              refine zr_iald (v := v 16 (zn cl)) X hW dX10_serve_279 (zm_s16 hM) rfl rfl (zi_vp (by omega)) ((show zm_mix u_20 g0 16 (cl : Int32).toNatClampNeg = u_20 16 (zn cl) from rfl).trans ((show u_20 16 (zn cl) = u_19 16 (zn cl) from (by rw [hu_20]; rfl)).trans (show u_19 16 (zn cl) = v 16 (zn cl) from (by rw [hu_19]; rfl)))) ?_
              refine lv_iconst (v := 2) X.1 X.2.1 dX10_serve_280 (by decide) ?_
              refine zr_icmp_ne (a := (v 16 (zn cl)).toInt) (b := 2) (tgt := 293) X dX10_serve_281 (by decide) rfl (by decide) (fun c_21 => ?_) (fun c_21 => ?_)
              · refine lv_aload_n X.1 X.2.1 dX10_serve_293 rfl (lv_at hl 4 rfl) ?_
                refine zr_get (v := .ref (ad 16)) X hW fs_X10_50_9 dX10_serve_294 (zm_s0 hM) rfl rfl rfl ?_
                refine lv_iload_n X.1 X.2.1 dX10_serve_297 rfl (lv_at hl 6 rfl) ?_
                refine zr_iald (v := v 16 (zn cl)) X hW dX10_serve_298 (zm_s16 hM) rfl rfl (zi_vp (by omega)) ((show zm_mix u_20 g0 16 (cl : Int32).toNatClampNeg = u_20 16 (zn cl) from rfl).trans ((show u_20 16 (zn cl) = u_19 16 (zn cl) from (by rw [hu_20]; rfl)).trans (show u_19 16 (zn cl) = v 16 (zn cl) from (by rw [hu_19]; rfl)))) ?_
                refine lv_iconst (v := 3) X.1 X.2.1 dX10_serve_299 (by decide) ?_
                refine zr_icmp_ne (a := (v 16 (zn cl)).toInt) (b := 3) (tgt := 320) X dX10_serve_300 (by decide) rfl (by decide) (fun c_22 => ?_) (fun c_22 => ?_)
                · refine lv_aload_n X.1 X.2.1 dX10_serve_320 rfl (lv_at hl 4 rfl) ?_
                  refine zr_get (v := .ref (ad 26)) X hW fs_X10_77_9 dX10_serve_321 (zm_s0 hM) rfl rfl rfl ?_
                  refine lv_iload X.1 X.2.1 dX10_serve_324 (lv_at hl 1 rfl) ?_
                  refine zr_iald (v := v 26 (zn (v 17 (zn cl)))) X hW dX10_serve_326 (zm_s26 hM) rfl rfl (zi_vp (by omega)) ((show zm_mix u_20 g0 26 (v 17 (zn cl) : Int32).toNatClampNeg = u_20 26 (zn (v 17 (zn cl))) from rfl).trans ((show u_20 26 (zn (v 17 (zn cl))) = u_19 26 (zn (v 17 (zn cl))) from (by rw [hu_20]; rfl)).trans (show u_19 26 (zn (v 17 (zn cl))) = v 26 (zn (v 17 (zn cl))) from (by rw [hu_19]; rfl)))) ?_
                  refine zr_iast X hW dX10_serve_327 (zm_s26 hM) rfl rfl (zi_vp (by omega)) (fun H locs hW => ?_)
                  have hW : zw_St Y N0 ad sh (zm_mix (zm_w u_20 26 (zn (v 17 (zn cl))) (v 26 (zn (v 17 (zn cl))))) g0) s H locs := zm_st (by decide) hW
                  obtain ⟨u_23, hu_23⟩ : ∃ z : zm_T, z = zm_w u_20 26 (zn (v 17 (zn cl))) (v 26 (zn (v 17 (zn cl)))) := ⟨_, rfl⟩
                  rw [← hu_23] at hW
                  refine lv_aload_n X.1 X.2.1 dX10_serve_328 rfl (lv_at hl 4 rfl) ?_
                  refine lv_aload_n X.1 X.2.1 dX10_serve_329 rfl (lv_at hl 4 rfl) ?_
                  refine zr_get (v := .ref (ad 26)) X hW fs_X10_77_9 dX10_serve_330 (zm_s0 hM) rfl rfl rfl ?_
                  refine lv_iload X.1 X.2.1 dX10_serve_333 (lv_at hl 1 rfl) ?_
                  refine zr_iald (v := v 26 (zn (v 17 (zn cl)))) X hW dX10_serve_335 (zm_s26 hM) rfl rfl (zi_vp (by omega)) ((show zm_mix u_23 g0 26 (v 17 (zn cl) : Int32).toNatClampNeg = u_23 26 (zn (v 17 (zn cl))) from rfl).trans (show u_23 26 (zn (v 17 (zn cl))) = v 26 (zn (v 17 (zn cl))) from (by rw [hu_23]; exact zm_ws _ _ _ _))) ?_
                  refine zr_puti X hW fs_X10_156_9 dX10_serve_336 (zm_s0 hM) rfl rfl rfl rfl (fun H locs hW => ?_)
                  have hW : zw_St Y N0 ad sh (zm_mix (zm_w u_23 0 27 (v 26 (zn (v 17 (zn cl))))) g0) s H locs := zm_st (by decide) hW
                  obtain ⟨u_24, hu_24⟩ : ∃ z : zm_T, z = zm_w u_23 0 27 (v 26 (zn (v 17 (zn cl)))) := ⟨_, rfl⟩
                  rw [← hu_24] at hW
                  refine lv_iconst (v := 0) X.1 X.2.1 dX10_serve_339 (by decide) ?_
                  have e9 : sp_serve1 k cl v = (0, u_24) := (by subst hu_24 hu_23 hu_20 hu_19; unfold sp_serve1; rw [hm]; (repeat (first | refine (if_pos (by first | omega | exact hb)).trans ?_ | refine (if_neg (by first | omega | (rw [hb]; decide))).trans ?_)); first | (rw [show zs_new v (zn cl) = v 18 (zn cl) from if_pos (by omega)] <;> rfl) | (rw [show zs_new v (zn cl) = v 26 (zn (v 17 (zn cl))) + v 18 (zn cl) from (if_neg (by omega)).trans (if_pos (by omega))] <;> rfl) | (rw [show zs_new v (zn cl) = v 26 (zn (v 17 (zn cl))) from (if_neg (by omega)).trans (if_neg (by omega))] <;> rfl))
                  exact zr_iret X hW dX10_serve_340 (Nat.le_refl _) (Nat.le_refl _) ⟨rfl, rfl, by rw [e9], by rw [e9]⟩
                · refine lv_aload_n X.1 X.2.1 dX10_serve_303 rfl (lv_at hl 4 rfl) ?_
                  refine zr_get (v := .ref (ad 26)) X hW fs_X10_77_9 dX10_serve_304 (zm_s0 hM) rfl rfl rfl ?_
                  refine lv_iload X.1 X.2.1 dX10_serve_307 (lv_at hl 1 rfl) ?_
                  refine zr_iald (v := v 26 (zn (v 17 (zn cl)))) X hW dX10_serve_309 (zm_s26 hM) rfl rfl (zi_vp (by omega)) ((show zm_mix u_20 g0 26 (v 17 (zn cl) : Int32).toNatClampNeg = u_20 26 (zn (v 17 (zn cl))) from rfl).trans ((show u_20 26 (zn (v 17 (zn cl))) = u_19 26 (zn (v 17 (zn cl))) from (by rw [hu_20]; rfl)).trans (show u_19 26 (zn (v 17 (zn cl))) = v 26 (zn (v 17 (zn cl))) from (by rw [hu_19]; rfl)))) ?_
                  refine lv_aload_n X.1 X.2.1 dX10_serve_310 rfl (lv_at hl 4 rfl) ?_
                  refine zr_get (v := .ref (ad 18)) X hW fs_X10_56_9 dX10_serve_311 (zm_s0 hM) rfl rfl rfl ?_
                  refine lv_iload_n X.1 X.2.1 dX10_serve_314 rfl (lv_at hl 6 rfl) ?_
                  refine zr_iald (v := v 18 (zn cl)) X hW dX10_serve_315 (zm_s18 hM) rfl rfl (zi_vp (by omega)) ((show zm_mix u_20 g0 18 (cl : Int32).toNatClampNeg = u_20 18 (zn cl) from rfl).trans ((show u_20 18 (zn cl) = u_19 18 (zn cl) from (by rw [hu_20]; rfl)).trans (show u_19 18 (zn cl) = v 18 (zn cl) from (by rw [hu_19]; rfl)))) ?_
                  refine lv_iadd X.1 X.2.1 dX10_serve_316 ?_
                  refine lv_goto (tgt := 327) X.1 X.2.1 dX10_serve_317 (by decide) ?_
                  refine zr_iast X hW dX10_serve_327 (zm_s26 hM) rfl rfl (zi_vp (by omega)) (fun H locs hW => ?_)
                  have hW : zw_St Y N0 ad sh (zm_mix (zm_w u_20 26 (zn (v 17 (zn cl))) ((v 26 (zn (v 17 (zn cl)))) + (v 18 (zn cl)))) g0) s H locs := zm_st (by decide) hW
                  obtain ⟨u_25, hu_25⟩ : ∃ z : zm_T, z = zm_w u_20 26 (zn (v 17 (zn cl))) ((v 26 (zn (v 17 (zn cl)))) + (v 18 (zn cl))) := ⟨_, rfl⟩
                  rw [← hu_25] at hW
                  refine lv_aload_n X.1 X.2.1 dX10_serve_328 rfl (lv_at hl 4 rfl) ?_
                  refine lv_aload_n X.1 X.2.1 dX10_serve_329 rfl (lv_at hl 4 rfl) ?_
                  refine zr_get (v := .ref (ad 26)) X hW fs_X10_77_9 dX10_serve_330 (zm_s0 hM) rfl rfl rfl ?_
                  refine lv_iload X.1 X.2.1 dX10_serve_333 (lv_at hl 1 rfl) ?_
                  refine zr_iald (v := (v 26 (zn (v 17 (zn cl)))) + (v 18 (zn cl))) X hW dX10_serve_335 (zm_s26 hM) rfl rfl (zi_vp (by omega)) ((show zm_mix u_25 g0 26 (v 17 (zn cl) : Int32).toNatClampNeg = u_25 26 (zn (v 17 (zn cl))) from rfl).trans (show u_25 26 (zn (v 17 (zn cl))) = (v 26 (zn (v 17 (zn cl)))) + (v 18 (zn cl)) from (by rw [hu_25]; exact zm_ws _ _ _ _))) ?_
                  refine zr_puti X hW fs_X10_156_9 dX10_serve_336 (zm_s0 hM) rfl rfl rfl rfl (fun H locs hW => ?_)
                  have hW : zw_St Y N0 ad sh (zm_mix (zm_w u_25 0 27 ((v 26 (zn (v 17 (zn cl)))) + (v 18 (zn cl)))) g0) s H locs := zm_st (by decide) hW
                  obtain ⟨u_26, hu_26⟩ : ∃ z : zm_T, z = zm_w u_25 0 27 ((v 26 (zn (v 17 (zn cl)))) + (v 18 (zn cl))) := ⟨_, rfl⟩
                  rw [← hu_26] at hW
                  refine lv_iconst (v := 0) X.1 X.2.1 dX10_serve_339 (by decide) ?_
                  have e9 : sp_serve1 k cl v = (0, u_26) := (by subst hu_26 hu_25 hu_20 hu_19; unfold sp_serve1; rw [hm]; (repeat (first | refine (if_pos (by first | omega | exact hb)).trans ?_ | refine (if_neg (by first | omega | (rw [hb]; decide))).trans ?_)); first | (rw [show zs_new v (zn cl) = v 18 (zn cl) from if_pos (by omega)] <;> rfl) | (rw [show zs_new v (zn cl) = v 26 (zn (v 17 (zn cl))) + v 18 (zn cl) from (if_neg (by omega)).trans (if_pos (by omega))] <;> rfl) | (rw [show zs_new v (zn cl) = v 26 (zn (v 17 (zn cl))) from (if_neg (by omega)).trans (if_neg (by omega))] <;> rfl))
                  exact zr_iret X hW dX10_serve_340 (Nat.le_refl _) (Nat.le_refl _) ⟨rfl, rfl, by rw [e9], by rw [e9]⟩
              · refine lv_aload_n X.1 X.2.1 dX10_serve_284 rfl (lv_at hl 4 rfl) ?_
                refine zr_get (v := .ref (ad 18)) X hW fs_X10_56_9 dX10_serve_285 (zm_s0 hM) rfl rfl rfl ?_
                refine lv_iload_n X.1 X.2.1 dX10_serve_288 rfl (lv_at hl 6 rfl) ?_
                refine zr_iald (v := v 18 (zn cl)) X hW dX10_serve_289 (zm_s18 hM) rfl rfl (zi_vp (by omega)) ((show zm_mix u_20 g0 18 (cl : Int32).toNatClampNeg = u_20 18 (zn cl) from rfl).trans ((show u_20 18 (zn cl) = u_19 18 (zn cl) from (by rw [hu_20]; rfl)).trans (show u_19 18 (zn cl) = v 18 (zn cl) from (by rw [hu_19]; rfl)))) ?_
                refine lv_goto (tgt := 327) X.1 X.2.1 dX10_serve_290 (by decide) ?_
                refine zr_iast X hW dX10_serve_327 (zm_s26 hM) rfl rfl (zi_vp (by omega)) (fun H locs hW => ?_)
                have hW : zw_St Y N0 ad sh (zm_mix (zm_w u_20 26 (zn (v 17 (zn cl))) (v 18 (zn cl))) g0) s H locs := zm_st (by decide) hW
                obtain ⟨u_27, hu_27⟩ : ∃ z : zm_T, z = zm_w u_20 26 (zn (v 17 (zn cl))) (v 18 (zn cl)) := ⟨_, rfl⟩
                rw [← hu_27] at hW
                refine lv_aload_n X.1 X.2.1 dX10_serve_328 rfl (lv_at hl 4 rfl) ?_
                refine lv_aload_n X.1 X.2.1 dX10_serve_329 rfl (lv_at hl 4 rfl) ?_
                refine zr_get (v := .ref (ad 26)) X hW fs_X10_77_9 dX10_serve_330 (zm_s0 hM) rfl rfl rfl ?_
                refine lv_iload X.1 X.2.1 dX10_serve_333 (lv_at hl 1 rfl) ?_
                refine zr_iald (v := v 18 (zn cl)) X hW dX10_serve_335 (zm_s26 hM) rfl rfl (zi_vp (by omega)) ((show zm_mix u_27 g0 26 (v 17 (zn cl) : Int32).toNatClampNeg = u_27 26 (zn (v 17 (zn cl))) from rfl).trans (show u_27 26 (zn (v 17 (zn cl))) = v 18 (zn cl) from (by rw [hu_27]; exact zm_ws _ _ _ _))) ?_
                refine zr_puti X hW fs_X10_156_9 dX10_serve_336 (zm_s0 hM) rfl rfl rfl rfl (fun H locs hW => ?_)
                have hW : zw_St Y N0 ad sh (zm_mix (zm_w u_27 0 27 (v 18 (zn cl))) g0) s H locs := zm_st (by decide) hW
                obtain ⟨u_28, hu_28⟩ : ∃ z : zm_T, z = zm_w u_27 0 27 (v 18 (zn cl)) := ⟨_, rfl⟩
                rw [← hu_28] at hW
                refine lv_iconst (v := 0) X.1 X.2.1 dX10_serve_339 (by decide) ?_
                have e9 : sp_serve1 k cl v = (0, u_28) := (by subst hu_28 hu_27 hu_20 hu_19; unfold sp_serve1; rw [hm]; (repeat (first | refine (if_pos (by first | omega | exact hb)).trans ?_ | refine (if_neg (by first | omega | (rw [hb]; decide))).trans ?_)); first | (rw [show zs_new v (zn cl) = v 18 (zn cl) from if_pos (by omega)] <;> rfl) | (rw [show zs_new v (zn cl) = v 26 (zn (v 17 (zn cl))) + v 18 (zn cl) from (if_neg (by omega)).trans (if_pos (by omega))] <;> rfl) | (rw [show zs_new v (zn cl) = v 26 (zn (v 17 (zn cl))) from (if_neg (by omega)).trans (if_neg (by omega))] <;> rfl))
                exact zr_iret X hW dX10_serve_340 (Nat.le_refl _) (Nat.le_refl _) ⟨rfl, rfl, by rw [e9], by rw [e9]⟩
            · refine lv_bipush (v := (-7)) X.1 X.2.1 dX10_serve_245 (by decide) ?_
              have e9 : sp_serve1 k cl v = ((-7), v) := (by unfold sp_serve1; rw [hm]; (repeat (first | refine (if_pos (by first | omega | exact hb)).trans ?_ | refine (if_neg (by first | omega | (rw [hb]; decide))).trans ?_)); rfl)
              exact zr_iret X hW dX10_serve_247 (Nat.le_refl _) (Nat.le_refl _) ⟨rfl, rfl, by rw [e9], by rw [e9]⟩
          · refine lv_bipush (v := (-6)) X.1 X.2.1 dX10_serve_233 (by decide) ?_
            have e9 : sp_serve1 k cl v = ((-6), v) := (by unfold sp_serve1; rw [hm]; (repeat (first | refine (if_pos (by first | omega | exact hb)).trans ?_ | refine (if_neg (by first | omega | (rw [hb]; decide))).trans ?_)); rfl)
            exact zr_iret X hW dX10_serve_235 (Nat.le_refl _) (Nat.le_refl _) ⟨rfl, rfl, by rw [e9], by rw [e9]⟩
      · have hcq := zI_cq hI j (by omega)
        refine lv_iload X.1 X.2.1 dX10_serve_141 (lv_at hl 1 rfl) ?_
        refine zr_if_ne (a := 0) (tgt := 161) X dX10_serve_143 (by decide) (by decide) (fun c9 => absurd c9 (by decide)) (fun _ => ?_)
        refine lv_aload_n X.1 X.2.1 dX10_serve_146 rfl (lv_at hl 3 rfl) ?_
        refine lv_aload_n X.1 X.2.1 dX10_serve_147 rfl (lv_at hl 3 rfl) ?_
        refine zr_get (v := .ref (ad 29)) X hW fs_X10_80_9 dX10_serve_148 (zm_s0 hM) rfl rfl rfl ?_
        refine lv_iload X.1 X.2.1 dX10_serve_151 (lv_at hl 0 rfl) ?_
        have hx_29 := nI_clamp (n := j) (by omega)
        refine zr_iald (v := v 29 j) X hW dX10_serve_153 (zm_s29 hM) rfl rfl (zi_vp (by rw [nI_toInt (by omega)]; omega)) (by rw [hx_29]; rfl) ?_
        refine lv_iload_n X.1 X.2.1 dX10_serve_154 rfl (lv_at hl 5 rfl) ?_
        refine zr_callV (As := [.int (v 29 j), .int cl]) (rest := []) X hW hl.1 md_X10_same ms_X10_153 dX10_serve_155 (zm_s0 hM) rfl rfl rfl rfl (Nat.le_of_ble_eq_true rfl) ⟨Nat.le_of_ble_eq_true rfl, Nat.le_of_ble_eq_true rfl⟩ ⟨Nat.le_of_ble_eq_true rfl, Nat.le_of_ble_eq_true rfl⟩ (c_X10_same l Y N0 ad sh v g0 hM (v 29 j) cl (by omega) (by omega)) (fun v9 ad9 sh9 g9 H locs hp hW => ?_)
        rcases hp with ⟨rfl, rfl, rfl, ⟨h_30, h9⟩ | ⟨h_30, h9⟩⟩
        · subst h9
          have h_30 : zs_same v (zn (v 29 j)) (zn cl) := h_30
          refine zr_if_eq (a := 1) (tgt := 165) X dX10_serve_158 (by decide) (by decide) (fun c9 => absurd c9 (by decide)) (fun _ => ?_)
          refine lv_iconst (v := 1) X.1 X.2.1 dX10_serve_161 (by decide) ?_
          refine lv_goto (tgt := 166) X.1 X.2.1 dX10_serve_162 (by decide) ?_
          refine lv_istore (lv' := [(4, .int 1), (5, .int (nI (j))), (3, .int (v 11 (zn k))), (0, .ref (ad 0)), (1, .int k), (2, .int cl)]) X.1 X.2.1 dX10_serve_166 hl (by decide) rfl (fun ls hl => ?_)
          refine lv_iinc (v := nI (j + 1)) (lv' := [(5, .int (nI (j + 1))), (4, .int 1), (3, .int (v 11 (zn k))), (0, .ref (ad 0)), (1, .int k), (2, .int cl)]) X.1 X.2.1 dX10_serve_168 hl (k := 1) rfl (nI_add j 1) (by decide) rfl (fun ls hl => ?_)
          refine lv_goto (tgt := 132) X.1 X.2.1 dX10_serve_171 (by decide) ?_
          exact ih (j + 1) 1 _ _ _ (by omega) (by omega) (Or.inl ⟨rfl, (by show (zs_rep v (zn cl) j || decide (zs_same v (zn (v 29 j)) (zn cl))) = true; rw [hb, decide_eq_true h_30]; rfl)⟩) hW (lv_sub hl [0, 1, 2, 3, 4, 5] rfl)
        · subst h9
          have h_30 : ¬ (zs_same v (zn (v 29 j)) (zn cl)) := h_30
          refine zr_if_eq (a := 0) (tgt := 165) X dX10_serve_158 (by decide) (by decide) (fun _ => ?_) (fun c9 => absurd c9 (by decide))
          refine lv_iconst (v := 0) X.1 X.2.1 dX10_serve_165 (by decide) ?_
          refine lv_istore (lv' := [(4, .int 0), (5, .int (nI (j))), (3, .int (v 11 (zn k))), (0, .ref (ad 0)), (1, .int k), (2, .int cl)]) X.1 X.2.1 dX10_serve_166 hl (by decide) rfl (fun ls hl => ?_)
          refine lv_iinc (v := nI (j + 1)) (lv' := [(5, .int (nI (j + 1))), (4, .int 0), (3, .int (v 11 (zn k))), (0, .ref (ad 0)), (1, .int k), (2, .int cl)]) X.1 X.2.1 dX10_serve_168 hl (k := 1) rfl (nI_add j 1) (by decide) rfl (fun ls hl => ?_)
          refine lv_goto (tgt := 132) X.1 X.2.1 dX10_serve_171 (by decide) ?_
          exact ih (j + 1) 0 _ _ _ (by omega) (by omega) (Or.inr ⟨rfl, (by show (zs_rep v (zn cl) j || decide (zs_same v (zn (v 29 j)) (zn cl))) = false; rw [hb, decide_eq_false h_30]; rfl)⟩) hW (lv_sub hl [0, 1, 2, 3, 4, 5] rfl)

set_option maxHeartbeats 4000000 in
set_option maxRecDepth 100000 in
theorem c_X10_serve (l : Launch) (Y : zw_Y) (N0 : Nat) (ad : Nat → Nat) (sh : Nat → Option zw_Sh) (u g0 : zm_T) (hM : zm_S sh) (k cl : Int32) (hI : zm_I u) : zw_Met l Y N0 yX10_serve cX10_serve 7 (some .int) 2 45 0 0 ad sh (zm_mix u g0) [.ref (ad 0), .int k, .int cl] (zp_S ad sh g0 (sp_serve k cl u)) := by
  refine zw_meth (by decide) (Nat.le_of_ble_eq_true rfl) ?_
  intro p e s m below meth c ls X hnm hl hW
  have hl : lv_has ls 7 [(0, .ref (ad 0)), (1, .int k), (2, .int cl)] := hl
  refine lv_aload_n X.1 X.2.1 dX10_serve_0 rfl (lv_at hl 0 rfl) ?_
  refine zr_callV (As := []) (rest := []) X hW hl.1 md_X10_forgetOld ms_X10_150 dX10_serve_1 (zm_s0 hM) rfl rfl rfl rfl (Nat.le_of_ble_eq_true rfl) ⟨Nat.le_of_ble_eq_true rfl, Nat.le_of_ble_eq_true rfl⟩ ⟨Nat.le_of_ble_eq_true rfl, Nat.le_of_ble_eq_true rfl⟩ (c_X10_forgetOld l Y N0 ad sh u g0 hM  hI) (fun v9 ad9 sh9 g9 H locs hp hW => ?_)
  obtain ⟨rfl, rfl, rfl, rfl⟩ := hp
  obtain ⟨u_2, hu_2⟩ : ∃ z : zm_T, z = zs_fo u := ⟨_, rfl⟩
  rw [← hu_2] at hW
  have hI1 : zm_I u_2 := by rw [hu_2]; exact zI_fo hI
  have hse := zI_se hI1
  refine lv_aload_n X.1 X.2.1 dX10_serve_4 rfl (lv_at hl 0 rfl) ?_
  refine lv_aload_n X.1 X.2.1 dX10_serve_5 rfl (lv_at hl 0 rfl) ?_
  refine zr_get (v := .ref (ad 3)) X hW fs_X10_13_9 dX10_serve_6 (zm_s0 hM) rfl rfl rfl ?_
  refine lv_iconst (v := 1) X.1 X.2.1 dX10_serve_9 (by decide) ?_
  refine zr_iald (v := u_2 3 1) X hW dX10_serve_10 (zm_s3 hM) rfl rfl (zi_vp (by decide)) rfl ?_
  refine lv_iload_n X.1 X.2.1 dX10_serve_11 rfl (lv_at hl 1 rfl) ?_
  refine lv_iconst (v := 2) X.1 X.2.1 dX10_serve_12 (by decide) ?_
  refine zr_callV (As := [.int (u_2 3 1), .int k, .int 2]) (rest := []) X hW hl.1 md_X10_opens ms_X10_126 dX10_serve_13 (zm_s0 hM) rfl rfl rfl rfl (Nat.le_of_ble_eq_true rfl) ⟨Nat.le_of_ble_eq_true rfl, Nat.le_of_ble_eq_true rfl⟩ ⟨Nat.le_of_ble_eq_true rfl, Nat.le_of_ble_eq_true rfl⟩ (c_X10_opens l Y N0 ad sh u_2 g0 hM (u_2 3 1) k 2 hI1) (fun v9 ad9 sh9 g9 H locs hp hW => ?_)
  rcases hp with ⟨rfl, rfl, rfl, ⟨h_4, h9⟩ | ⟨h_4, h9⟩⟩
  · subst h9
    have h_4 : zs_op u_2 (u_2 3 1) k 2 := h_4
    refine zr_if_ne (a := 1) (tgt := 22) X dX10_serve_16 (by decide) (by decide) (fun _ => ?_) (fun c9 => absurd c9 (by decide))
    refine lv_aload_n X.1 X.2.1 dX10_serve_22 rfl (lv_at hl 0 rfl) ?_
    refine lv_aload_n X.1 X.2.1 dX10_serve_23 rfl (lv_at hl 0 rfl) ?_
    refine zr_get (v := .ref (ad 12)) X hW fs_X10_38_9 dX10_serve_24 (zm_s0 hM) rfl rfl rfl ?_
    refine lv_iload_n X.1 X.2.1 dX10_serve_27 rfl (lv_at hl 1 rfl) ?_
    refine zr_iald (v := u_2 12 (zn k)) X hW dX10_serve_28 (zm_s12 hM) rfl rfl (zi_vp (by omega)) rfl ?_
    refine lv_iload_n X.1 X.2.1 dX10_serve_29 rfl (lv_at hl 2 rfl) ?_
    refine lv_iconst (v := 4) X.1 X.2.1 dX10_serve_30 (by decide) ?_
    refine zr_callV (As := [.int (u_2 12 (zn k)), .int cl, .int 4]) (rest := []) X hW hl.1 md_X10_opens ms_X10_126 dX10_serve_31 (zm_s0 hM) rfl rfl rfl rfl (Nat.le_of_ble_eq_true rfl) ⟨Nat.le_of_ble_eq_true rfl, Nat.le_of_ble_eq_true rfl⟩ ⟨Nat.le_of_ble_eq_true rfl, Nat.le_of_ble_eq_true rfl⟩ (c_X10_opens l Y N0 ad sh u_2 g0 hM (u_2 12 (zn k)) cl 4 hI1) (fun v9 ad9 sh9 g9 H locs hp hW => ?_)
    rcases hp with ⟨rfl, rfl, rfl, ⟨h_5, h9⟩ | ⟨h_5, h9⟩⟩
    · subst h9
      have h_5 : zs_op u_2 (u_2 12 (zn k)) cl 4 := h_5
      refine zr_if_ne (a := 1) (tgt := 40) X dX10_serve_34 (by decide) (by decide) (fun _ => ?_) (fun c9 => absurd c9 (by decide))
      refine lv_aload_n X.1 X.2.1 dX10_serve_40 rfl (lv_at hl 0 rfl) ?_
      refine zr_get (v := .ref (ad 11)) X hW fs_X10_35_9 dX10_serve_41 (zm_s0 hM) rfl rfl rfl ?_
      refine lv_iload_n X.1 X.2.1 dX10_serve_44 rfl (lv_at hl 1 rfl) ?_
      refine zr_iald (v := u_2 11 (zn k)) X hW dX10_serve_45 (zm_s11 hM) rfl rfl (zi_vp (by omega)) rfl ?_
      refine lv_istore_n (lv' := [(3, .int (u_2 11 (zn k))), (0, .ref (ad 0)), (1, .int k), (2, .int cl)]) X.1 X.2.1 dX10_serve_46 rfl hl (by decide) rfl (fun ls hl => ?_)
      refine lv_aload_n X.1 X.2.1 dX10_serve_47 rfl (lv_at hl 1 rfl) ?_
      refine zr_get (v := .ref (ad 11)) X hW fs_X10_35_9 dX10_serve_48 (zm_s0 hM) rfl rfl rfl ?_
      refine lv_iload_n X.1 X.2.1 dX10_serve_51 rfl (lv_at hl 3 rfl) ?_
      refine zr_iald (v := u_2 11 (zn cl)) X hW dX10_serve_52 (zm_s11 hM) rfl rfl (zi_vp (by omega)) rfl ?_
      refine lv_iload_n X.1 X.2.1 dX10_serve_53 rfl (lv_at hl 0 rfl) ?_
      refine zr_icmp_ne (a := (u_2 11 (zn cl)).toInt) (b := (u_2 11 (zn k)).toInt) (tgt := 66) X dX10_serve_54 (by decide) rfl rfl (fun c_6 => ?_) (fun c_6 => ?_)
      · refine lv_bipush (v := (-3)) X.1 X.2.1 dX10_serve_66 (by decide) ?_
        have e9 : sp_serve k cl u = ((-3), u_2) := (by show sp_serve1 k cl (zs_fo u) = _; rw [← hu_2]; unfold sp_serve1; (repeat (first | refine (if_pos (by omega)).trans ?_ | refine (if_neg (by omega)).trans ?_)); rfl)
        exact zr_iret X hW dX10_serve_68 (Nat.le_refl _) (Nat.le_refl _) ⟨rfl, rfl, by rw [e9], by rw [e9]⟩
      · refine lv_aload_n X.1 X.2.1 dX10_serve_57 rfl (lv_at hl 1 rfl) ?_
        refine zr_get (v := .ref (ad 16)) X hW fs_X10_50_9 dX10_serve_58 (zm_s0 hM) rfl rfl rfl ?_
        refine lv_iload_n X.1 X.2.1 dX10_serve_61 rfl (lv_at hl 3 rfl) ?_
        refine zr_iald (v := u_2 16 (zn cl)) X hW dX10_serve_62 (zm_s16 hM) rfl rfl (zi_vp (by omega)) rfl ?_
        refine zr_if_ne (a := (u_2 16 (zn cl)).toInt) (tgt := 69) X dX10_serve_63 (by decide) rfl (fun c_7 => ?_) (fun c_7 => ?_)
        · refine lv_aload_n X.1 X.2.1 dX10_serve_69 rfl (lv_at hl 1 rfl) ?_
          refine lv_aload_n X.1 X.2.1 dX10_serve_70 rfl (lv_at hl 1 rfl) ?_
          refine zr_get (v := .ref (ad 13)) X hW fs_X10_41_9 dX10_serve_71 (zm_s0 hM) rfl rfl rfl ?_
          refine lv_iload_n X.1 X.2.1 dX10_serve_74 rfl (lv_at hl 3 rfl) ?_
          refine zr_iald (v := u_2 13 (zn cl)) X hW dX10_serve_75 (zm_s13 hM) rfl rfl (zi_vp (by omega)) rfl ?_
          refine lv_aload_n X.1 X.2.1 dX10_serve_76 rfl (lv_at hl 1 rfl) ?_
          refine zr_get (v := .ref (ad 1)) X hW fs_X10_7_9 dX10_serve_77 (zm_s0 hM) rfl rfl rfl ?_
          refine lv_iconst (v := 1) X.1 X.2.1 dX10_serve_80 (by decide) ?_
          refine zr_iald (v := u_2 1 1) X hW dX10_serve_81 (zm_s1 hM) rfl rfl (zi_vp (by decide)) rfl ?_
          refine zr_callV (As := [.int (u_2 13 (zn cl)), .int (u_2 1 1)]) (rest := []) X hW hl.1 md_X10_near ms_X10_137 dX10_serve_82 (zm_s0 hM) rfl rfl rfl rfl (Nat.le_of_ble_eq_true rfl) ⟨Nat.le_of_ble_eq_true rfl, Nat.le_of_ble_eq_true rfl⟩ ⟨Nat.le_of_ble_eq_true rfl, Nat.le_of_ble_eq_true rfl⟩ (c_X10_near l Y N0 ad sh u_2 g0 hM (u_2 13 (zn cl)) (u_2 1 1) hI1) (fun v9 ad9 sh9 g9 H locs hp hW => ?_)
          rcases hp with ⟨rfl, rfl, rfl, ⟨h_8, h9⟩ | ⟨h_8, h9⟩⟩
          · subst h9
            have h_8 : zs_nr u_2 (u_2 13 (zn cl)) (u_2 1 1) := h_8
            refine zr_if_eq (a := 1) (tgt := 123) X dX10_serve_85 (by decide) (by decide) (fun c9 => absurd c9 (by decide)) (fun _ => ?_)
            refine lv_aload_n X.1 X.2.1 dX10_serve_88 rfl (lv_at hl 1 rfl) ?_
            refine zr_get (v := .ref (ad 1)) X hW fs_X10_7_9 dX10_serve_89 (zm_s0 hM) rfl rfl rfl ?_
            refine lv_iconst (v := 1) X.1 X.2.1 dX10_serve_92 (by decide) ?_
            refine zr_iald (v := u_2 1 1) X hW dX10_serve_93 (zm_s1 hM) rfl rfl (zi_vp (by decide)) rfl ?_
            refine lv_aload_n X.1 X.2.1 dX10_serve_94 rfl (lv_at hl 1 rfl) ?_
            refine zr_get (v := .ref (ad 14)) X hW fs_X10_44_9 dX10_serve_95 (zm_s0 hM) rfl rfl rfl ?_
            refine lv_iload_n X.1 X.2.1 dX10_serve_98 rfl (lv_at hl 2 rfl) ?_
            refine zr_iald (v := u_2 14 (zn k)) X hW dX10_serve_99 (zm_s14 hM) rfl rfl (zi_vp (by omega)) rfl ?_
            refine zr_icmp_gt (a := (u_2 1 1).toInt) (b := (u_2 14 (zn k)).toInt) (tgt := 123) X dX10_serve_100 (by decide) rfl rfl (fun c_9 => ?_) (fun c_9 => ?_)
            · refine lv_bipush (v := (-4)) X.1 X.2.1 dX10_serve_123 (by decide) ?_
              have e9 : sp_serve k cl u = ((-4), u_2) := (by show sp_serve1 k cl (zs_fo u) = _; rw [← hu_2]; unfold sp_serve1; (repeat (first | refine (if_pos (by omega)).trans ?_ | refine (if_neg (by omega)).trans ?_)); rfl)
              exact zr_iret X hW dX10_serve_125 (Nat.le_refl _) (Nat.le_refl _) ⟨rfl, rfl, by rw [e9], by rw [e9]⟩
            · refine lv_aload_n X.1 X.2.1 dX10_serve_103 rfl (lv_at hl 1 rfl) ?_
              refine zr_get (v := .ref (ad 13)) X hW fs_X10_41_9 dX10_serve_104 (zm_s0 hM) rfl rfl rfl ?_
              refine lv_iload_n X.1 X.2.1 dX10_serve_107 rfl (lv_at hl 2 rfl) ?_
              refine zr_iald (v := u_2 13 (zn k)) X hW dX10_serve_108 (zm_s13 hM) rfl rfl (zi_vp (by omega)) rfl ?_
              refine lv_aload_n X.1 X.2.1 dX10_serve_109 rfl (lv_at hl 1 rfl) ?_
              refine zr_get (v := .ref (ad 1)) X hW fs_X10_7_9 dX10_serve_110 (zm_s0 hM) rfl rfl rfl ?_
              refine lv_iconst (v := 1) X.1 X.2.1 dX10_serve_113 (by decide) ?_
              refine zr_iald (v := u_2 1 1) X hW dX10_serve_114 (zm_s1 hM) rfl rfl (zi_vp (by decide)) rfl ?_
              refine lv_aload_n X.1 X.2.1 dX10_serve_115 rfl (lv_at hl 1 rfl) ?_
              refine zr_get (v := .int (u_2 0 0)) X hW fs_X10_83_9 dX10_serve_116 (zm_s0 hM) rfl rfl rfl ?_
              refine lv_iadd X.1 X.2.1 dX10_serve_119 ?_
              refine zr_icmp_le (a := (u_2 13 (zn k)).toInt) (b := ((u_2 1 1) + (u_2 0 0)).toInt) (tgt := 126) X dX10_serve_120 (by decide) rfl rfl (fun c_10 => ?_) (fun c_10 => ?_)
              · refine lv_iconst (v := 0) X.1 X.2.1 dX10_serve_126 (by decide) ?_
                refine lv_istore (lv' := [(4, .int 0), (3, .int (u_2 11 (zn k))), (0, .ref (ad 0)), (1, .int k), (2, .int cl)]) X.1 X.2.1 dX10_serve_127 hl (by decide) rfl (fun ls hl => ?_)
                refine lv_iconst (v := 0) X.1 X.2.1 dX10_serve_129 (by decide) ?_
                refine lv_istore (lv' := [(5, .int 0), (4, .int 0), (3, .int (u_2 11 (zn k))), (0, .ref (ad 0)), (1, .int k), (2, .int cl)]) X.1 X.2.1 dX10_serve_130 hl (by decide) rfl (fun ls hl => ?_)
                have hca := zI_ca hI1
                have e9 : sp_serve k cl u = sp_serve1 k cl u_2 := by rw [hu_2]; rfl
                rw [e9]
                exact lp_serve l Y N0 ad sh u_2 g0 hM k cl hI1 h_4 h_5 (by omega) (by omega) h_8 (by omega) (by omega) X hnm 13 0 0 _ _ _ (by omega) (by omega) (Or.inr ⟨rfl, rfl⟩) hW (lv_sub hl [0, 1, 2, 3, 4, 5] rfl)
              · refine lv_bipush (v := (-4)) X.1 X.2.1 dX10_serve_123 (by decide) ?_
                have e9 : sp_serve k cl u = ((-4), u_2) := (by show sp_serve1 k cl (zs_fo u) = _; rw [← hu_2]; unfold sp_serve1; (repeat (first | refine (if_pos (by omega)).trans ?_ | refine (if_neg (by omega)).trans ?_)); rfl)
                exact zr_iret X hW dX10_serve_125 (Nat.le_refl _) (Nat.le_refl _) ⟨rfl, rfl, by rw [e9], by rw [e9]⟩
          · subst h9
            have h_8 : ¬ (zs_nr u_2 (u_2 13 (zn cl)) (u_2 1 1)) := h_8
            refine zr_if_eq (a := 0) (tgt := 123) X dX10_serve_85 (by decide) (by decide) (fun _ => ?_) (fun c9 => absurd c9 (by decide))
            refine lv_bipush (v := (-4)) X.1 X.2.1 dX10_serve_123 (by decide) ?_
            have e9 : sp_serve k cl u = ((-4), u_2) := (by show sp_serve1 k cl (zs_fo u) = _; rw [← hu_2]; unfold sp_serve1; (repeat (first | refine (if_pos (by omega)).trans ?_ | refine (if_neg (by omega)).trans ?_)); rfl)
            exact zr_iret X hW dX10_serve_125 (Nat.le_refl _) (Nat.le_refl _) ⟨rfl, rfl, by rw [e9], by rw [e9]⟩
        · refine lv_bipush (v := (-3)) X.1 X.2.1 dX10_serve_66 (by decide) ?_
          have e9 : sp_serve k cl u = ((-3), u_2) := (by show sp_serve1 k cl (zs_fo u) = _; rw [← hu_2]; unfold sp_serve1; (repeat (first | refine (if_pos (by omega)).trans ?_ | refine (if_neg (by omega)).trans ?_)); rfl)
          exact zr_iret X hW dX10_serve_68 (Nat.le_refl _) (Nat.le_refl _) ⟨rfl, rfl, by rw [e9], by rw [e9]⟩
    · subst h9
      have h_5 : ¬ (zs_op u_2 (u_2 12 (zn k)) cl 4) := h_5
      refine zr_if_ne (a := 0) (tgt := 40) X dX10_serve_34 (by decide) (by decide) (fun c9 => absurd c9 (by decide)) (fun _ => ?_)
      refine lv_bipush (v := (-2)) X.1 X.2.1 dX10_serve_37 (by decide) ?_
      have e9 : sp_serve k cl u = ((-2), u_2) := (by show sp_serve1 k cl (zs_fo u) = _; rw [← hu_2]; unfold sp_serve1; (repeat (first | refine (if_pos (by omega)).trans ?_ | refine (if_neg (by omega)).trans ?_)); rfl)
      exact zr_iret X hW dX10_serve_39 (Nat.le_refl _) (Nat.le_refl _) ⟨rfl, rfl, by rw [e9], by rw [e9]⟩
  · subst h9
    have h_4 : ¬ (zs_op u_2 (u_2 3 1) k 2) := h_4
    refine zr_if_ne (a := 0) (tgt := 22) X dX10_serve_16 (by decide) (by decide) (fun c9 => absurd c9 (by decide)) (fun _ => ?_)
    refine lv_bipush (v := (-2)) X.1 X.2.1 dX10_serve_19 (by decide) ?_
    have e9 : sp_serve k cl u = ((-2), u_2) := (by show sp_serve1 k cl (zs_fo u) = _; rw [← hu_2]; unfold sp_serve1; (repeat (first | refine (if_pos (by omega)).trans ?_ | refine (if_neg (by omega)).trans ?_)); rfl)
    exact zr_iret X hW dX10_serve_21 (Nat.le_refl _) (Nat.le_refl _) ⟨rfl, rfl, by rw [e9], by rw [e9]⟩
