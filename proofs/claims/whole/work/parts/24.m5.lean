def zs_cpk (u : zm_T) (f t k : Nat) : zm_T := fun r i => if r = 5 ∧ t ≤ i ∧ i < t + k then u 5 (f + (i - t)) else if r = 6 ∧ t ≤ i ∧ i < t + k then u 6 (f + (i - t)) else if r = 7 ∧ 3 * t ≤ i ∧ i < 3 * t + 3 * k then u 7 (3 * f + (i - 3 * t)) else u r i
theorem zs_cpk0 (u : zm_T) (f t : Nat) : zs_cpk u f t 0 = u := by
  funext r i
  unfold zs_cpk
  rw [if_neg (by omega), if_neg (by omega), if_neg (by omega)]
theorem zs_cpk6 (u : zm_T) (f t : Nat) : zs_cpk u f t 6 = zs_cp u f t := rfl
theorem zs_cpkn (u : zm_T) {f t k r i : Nat} (h : (r = 5 ∨ r = 6 → ¬ (t ≤ i ∧ i < t + k)) ∧ (r = 7 → ¬ (3 * t ≤ i ∧ i < 3 * t + 3 * k))) : zs_cpk u f t k r i = u r i := by
  unfold zs_cpk
  rw [if_neg (fun q => h.1 (Or.inl q.1) q.2), if_neg (fun q => h.1 (Or.inr q.1) q.2), if_neg (fun q => h.2 q.1 q.2)]
theorem zs_cpks (u : zm_T) (f t k : Nat) : zm_w (zm_w (zm_w (zm_w (zm_w (zs_cpk u f t k) 5 (t + k) (u 5 (f + k))) 6 (t + k) (u 6 (f + k))) 7 (3 * (t + k) + 0) (u 7 (3 * (f + k) + 0))) 7 (3 * (t + k) + 1) (u 7 (3 * (f + k) + 1))) 7 (3 * (t + k) + 2) (u 7 (3 * (f + k) + 2)) = zs_cpk u f t (k + 1) := by
  funext r i
  by_cases h5 : r = 5
  · subst h5
    rw [zm_wn _ _ (Or.inl (by decide)), zm_wn _ _ (Or.inl (by decide)), zm_wn _ _ (Or.inl (by decide)), zm_wn _ _ (Or.inl (by decide))]
    by_cases hi : i = t + k
    · subst hi
      rw [zm_ws]
      unfold zs_cpk
      rw [if_pos (by omega)]
      congr 1; omega
    · rw [zm_wn _ _ (Or.inr hi)]
      unfold zs_cpk
      by_cases hj : t ≤ i ∧ i < t + k
      · rw [if_pos (by omega), if_pos (by omega)]
      · rw [if_neg (by omega), if_neg (by omega), if_neg (by omega), if_neg (by omega), if_neg (by omega), if_neg (by omega)]
  · by_cases h6 : r = 6
    · subst h6
      rw [zm_wn _ _ (Or.inl (by decide)), zm_wn _ _ (Or.inl (by decide)), zm_wn _ _ (Or.inl (by decide))]
      by_cases hi : i = t + k
      · subst hi
        rw [zm_ws]
        unfold zs_cpk
        rw [if_neg (by omega), if_pos (by omega)]
        congr 1; omega
      · rw [zm_wn _ _ (Or.inr hi), zm_wn _ _ (Or.inl (by decide))]
        unfold zs_cpk
        by_cases hj : t ≤ i ∧ i < t + k
        · rw [if_neg (by omega), if_pos (by omega), if_neg (by omega), if_pos (by omega)]
        · rw [if_neg (by omega), if_neg (by omega), if_neg (by omega), if_neg (by omega), if_neg (by omega), if_neg (by omega)]
    · by_cases h7 : r = 7
      · subst h7
        by_cases hi2 : i = 3 * (t + k) + 2
        · subst hi2
          rw [zm_ws]
          unfold zs_cpk
          rw [if_neg (by omega), if_neg (by omega), if_pos (by omega)]
          congr 1; omega
        · rw [zm_wn _ _ (Or.inr hi2)]
          by_cases hi1 : i = 3 * (t + k) + 1
          · subst hi1
            rw [zm_ws]
            unfold zs_cpk
            rw [if_neg (by omega), if_neg (by omega), if_pos (by omega)]
            congr 1; omega
          · rw [zm_wn _ _ (Or.inr hi1)]
            by_cases hi0 : i = 3 * (t + k) + 0
            · subst hi0
              rw [zm_ws]
              unfold zs_cpk
              rw [if_neg (by omega), if_neg (by omega), if_pos (by omega)]
              congr 1; omega
            · rw [zm_wn _ _ (Or.inr hi0), zm_wn _ _ (Or.inl (by decide)), zm_wn _ _ (Or.inl (by decide))]
              unfold zs_cpk
              by_cases hj : 3 * t ≤ i ∧ i < 3 * t + 3 * k
              · rw [if_neg (by omega), if_neg (by omega), if_pos (by omega), if_neg (by omega), if_neg (by omega), if_pos (by omega)]
              · rw [if_neg (by omega), if_neg (by omega), if_neg (by omega), if_neg (by omega), if_neg (by omega), if_neg (by omega)]
      · rw [zm_wn _ _ (Or.inl h7), zm_wn _ _ (Or.inl h7), zm_wn _ _ (Or.inl h7), zm_wn _ _ (Or.inl h6), zm_wn _ _ (Or.inl h5)]
        unfold zs_cpk
        rw [if_neg (by omega), if_neg (by omega), if_neg (by omega), if_neg (by omega), if_neg (by omega), if_neg (by omega)]

set_option maxHeartbeats 8000000 in
set_option maxRecDepth 100000 in
theorem lp_copyBook_s {p : Program} {e : Env} {s : State} {m : MethodId} {below : List Frame} {meth : Method} {c : Code} (l : Launch) (Y : zw_Y) (N0 : Nat) (ad : Nat → Nat) (sh : Nat → Option zw_Sh) (u g0 : zm_T) (hM : zm_S sh) (X : zw_X p m meth c cX10_copyBook 6 (some .int) s ([.ref (ad 0), .int 0, .int 6] : List Value).toArray yX10_copyBook.cls Y) (hnm : meth.name = yX10_copyBook.name) :
    ∀ (n : Nat) (i : Nat) (w : zm_T) (H : Heap) (locs : List Loc) (ls : Array Slot), i ≤ 6 → 6 - i < n → w = zs_cpk u 0 6 i → zw_St Y N0 ad sh (zm_mix w g0) s H locs → lv_has ls 6 [(4, .int (nI i)), (3, .int (zs_cnt u 0 i)), (0, .ref (ad 0)), (1, .int 0), (2, .int 6)] → W p l e ({ frames := 0, cells := 0, slots := 0, locals := 0 } : Room) s m ([.ref (ad 0), .int 0, .int 6] : List Value).toArray below meth c H locs 0 0 (MQ below (zw_Q Y N0 (zp_G ad sh (fun v g' => ∃ r : Int32, v = some (.int r) ∧ r = zs_cnt u 0 6 ∧ g' = zm_mix (zs_cp u 0 6) g0))) ([.ref (ad 0), .int 0, .int 6] : List Value).toArray s 0 0 (fun q => N0 ≤ q)) (F0 m 5 ls []) := by
  intro n
  induction n with
  | zero => intro i w H locs ls h1 h2; omega
  | succ n ih =>
    intro i w H locs ls hi hn hw hW hl
    refine lv_iload X.1 X.2.1 dX10_copyBook_5 (lv_at hl 0 rfl) ?_
    refine lv_bipush (v := 6) X.1 X.2.1 dX10_copyBook_7 (by decide) ?_
    refine zr_icmp_ge (a := ((i : Nat) : Int)) (b := 6) (tgt := 117) X dX10_copyBook_9 (by decide) (nI_toInt (by omega)) (by decide) (fun c_1 => ?_) (fun c_1 => ?_)
    · refine lv_iload_n X.1 X.2.1 dX10_copyBook_117 rfl (lv_at hl 1 rfl) ?_
      have h6 : i = 6 := by omega
      subst h6
      subst hw
      exact zr_iret X hW dX10_copyBook_118 (Nat.le_refl _) (Nat.le_refl _) ⟨rfl, rfl, _, rfl, rfl, rfl⟩
    · refine lv_aload_n X.1 X.2.1 dX10_copyBook_12 rfl (lv_at hl 2 rfl) ?_
      refine zr_get (v := .ref (ad 5)) X hW fs_X10_20_9 dX10_copyBook_13 (zm_s0 hM) rfl rfl rfl ?_
      refine lv_iload_n X.1 X.2.1 dX10_copyBook_16 rfl (lv_at hl 4 rfl) ?_
      refine lv_iload X.1 X.2.1 dX10_copyBook_17 (lv_at hl 0 rfl) ?_
      refine lv_iadd X.1 X.2.1 dX10_copyBook_19 ?_
      refine zr_eqi (v := nI (6 + i)) (nI_add 6 i) ?_
      refine lv_aload_n X.1 X.2.1 dX10_copyBook_20 rfl (lv_at hl 2 rfl) ?_
      refine zr_get (v := .ref (ad 5)) X hW fs_X10_20_9 dX10_copyBook_21 (zm_s0 hM) rfl rfl rfl ?_
      refine lv_iload_n X.1 X.2.1 dX10_copyBook_24 rfl (lv_at hl 3 rfl) ?_
      refine lv_iload X.1 X.2.1 dX10_copyBook_25 (lv_at hl 0 rfl) ?_
      refine lv_iadd X.1 X.2.1 dX10_copyBook_27 ?_
      refine zr_eqi (v := nI (0 + i)) (nI_add 0 i) ?_
      have hx_2 := nI_clamp (n := 0 + i) (by omega)
      refine zr_iald (v := u 5 (0 + i)) X hW dX10_copyBook_28 (zm_s5 hM) rfl rfl (zi_vp (by rw [nI_toInt (by omega)]; omega)) ((show zm_mix w g0 5 (nI (0 + i) : Int32).toNatClampNeg = w 5 (0 + i) from (by rw [hx_2]; rfl)).trans (show w 5 (0 + i) = u 5 (0 + i) from (by rw [hw]; exact zs_cpkn u (by omega)))) ?_
      have hx_3 := nI_clamp (n := 6 + i) (by omega)
      refine zr_iast X hW dX10_copyBook_29 (zm_s5 hM) rfl rfl (zi_vp (by rw [nI_toInt (by omega)]; omega)) (fun H locs hW => ?_)
      rw [hx_3] at hW
      have hW : zw_St Y N0 ad sh (zm_mix (zm_w w 5 (6 + i) (u 5 (0 + i))) g0) s H locs := zm_st (by decide) hW
      obtain ⟨u_4, hu_4⟩ : ∃ z : zm_T, z = zm_w w 5 (6 + i) (u 5 (0 + i)) := ⟨_, rfl⟩
      rw [← hu_4] at hW
      refine lv_aload_n X.1 X.2.1 dX10_copyBook_30 rfl (lv_at hl 2 rfl) ?_
      refine zr_get (v := .ref (ad 6)) X hW fs_X10_23_9 dX10_copyBook_31 (zm_s0 hM) rfl rfl rfl ?_
      refine lv_iload_n X.1 X.2.1 dX10_copyBook_34 rfl (lv_at hl 4 rfl) ?_
      refine lv_iload X.1 X.2.1 dX10_copyBook_35 (lv_at hl 0 rfl) ?_
      refine lv_iadd X.1 X.2.1 dX10_copyBook_37 ?_
      refine zr_eqi (v := nI (6 + i)) (nI_add 6 i) ?_
      refine lv_aload_n X.1 X.2.1 dX10_copyBook_38 rfl (lv_at hl 2 rfl) ?_
      refine zr_get (v := .ref (ad 6)) X hW fs_X10_23_9 dX10_copyBook_39 (zm_s0 hM) rfl rfl rfl ?_
      refine lv_iload_n X.1 X.2.1 dX10_copyBook_42 rfl (lv_at hl 3 rfl) ?_
      refine lv_iload X.1 X.2.1 dX10_copyBook_43 (lv_at hl 0 rfl) ?_
      refine lv_iadd X.1 X.2.1 dX10_copyBook_45 ?_
      refine zr_eqi (v := nI (0 + i)) (nI_add 0 i) ?_
      have hx_5 := nI_clamp (n := 0 + i) (by omega)
      refine zr_iald (v := u 6 (0 + i)) X hW dX10_copyBook_46 (zm_s6 hM) rfl rfl (zi_vp (by rw [nI_toInt (by omega)]; omega)) ((show zm_mix u_4 g0 6 (nI (0 + i) : Int32).toNatClampNeg = u_4 6 (0 + i) from (by rw [hx_5]; rfl)).trans ((show u_4 6 (0 + i) = w 6 (0 + i) from (by rw [hu_4]; rfl)).trans (show w 6 (0 + i) = u 6 (0 + i) from (by rw [hw]; exact zs_cpkn u (by omega))))) ?_
      have hx_6 := nI_clamp (n := 6 + i) (by omega)
      refine zr_iast X hW dX10_copyBook_47 (zm_s6 hM) rfl rfl (zi_vp (by rw [nI_toInt (by omega)]; omega)) (fun H locs hW => ?_)
      rw [hx_6] at hW
      have hW : zw_St Y N0 ad sh (zm_mix (zm_w u_4 6 (6 + i) (u 6 (0 + i))) g0) s H locs := zm_st (by decide) hW
      obtain ⟨u_7, hu_7⟩ : ∃ z : zm_T, z = zm_w u_4 6 (6 + i) (u 6 (0 + i)) := ⟨_, rfl⟩
      rw [← hu_7] at hW
      refine lv_iconst (v := 0) X.1 X.2.1 dX10_copyBook_48 (by decide) ?_
      refine lv_istore (lv' := [(5, .int 0), (4, .int (nI (i))), (3, .int (zs_cnt u 0 i)), (0, .ref (ad 0)), (1, .int 0), (2, .int 6)]) X.1 X.2.1 dX10_copyBook_49 hl (by decide) rfl (fun ls hl => ?_)
      refine lv_iload X.1 X.2.1 dX10_copyBook_51 (lv_at hl 0 rfl) ?_
      refine lv_iconst (v := 3) X.1 X.2.1 dX10_copyBook_53 (by decide) ?_
      refine zr_icmp_ge (a := 0) (b := 3) (tgt := 91) X dX10_copyBook_54 (by decide) (by decide) (by decide) (fun c9 => absurd c9 (by decide)) (fun _ => ?_)
      refine lv_aload_n X.1 X.2.1 dX10_copyBook_57 rfl (lv_at hl 3 rfl) ?_
      refine zr_get (v := .ref (ad 7)) X hW fs_X10_26_9 dX10_copyBook_58 (zm_s0 hM) rfl rfl rfl ?_
      refine lv_iconst (v := 3) X.1 X.2.1 dX10_copyBook_61 (by decide) ?_
      refine lv_iload_n X.1 X.2.1 dX10_copyBook_62 rfl (lv_at hl 5 rfl) ?_
      refine lv_iload X.1 X.2.1 dX10_copyBook_63 (lv_at hl 1 rfl) ?_
      refine lv_iadd X.1 X.2.1 dX10_copyBook_65 ?_
      refine zr_eqi (v := nI (6 + i)) (nI_add 6 i) ?_
      refine lv_imul X.1 X.2.1 dX10_copyBook_66 ?_
      refine zr_eqi (v := nI (3 * (6 + i))) (pk_mul 3 (6 + i)) ?_
      refine lv_iload X.1 X.2.1 dX10_copyBook_67 (lv_at hl 0 rfl) ?_
      refine lv_iadd X.1 X.2.1 dX10_copyBook_69 ?_
      refine zr_eqi (v := nI ((3 * (6 + i)) + 0)) (nI_add (3 * (6 + i)) 0) ?_
      refine lv_aload_n X.1 X.2.1 dX10_copyBook_70 rfl (lv_at hl 3 rfl) ?_
      refine zr_get (v := .ref (ad 7)) X hW fs_X10_26_9 dX10_copyBook_71 (zm_s0 hM) rfl rfl rfl ?_
      refine lv_iconst (v := 3) X.1 X.2.1 dX10_copyBook_74 (by decide) ?_
      refine lv_iload_n X.1 X.2.1 dX10_copyBook_75 rfl (lv_at hl 4 rfl) ?_
      refine lv_iload X.1 X.2.1 dX10_copyBook_76 (lv_at hl 1 rfl) ?_
      refine lv_iadd X.1 X.2.1 dX10_copyBook_78 ?_
      refine zr_eqi (v := nI (0 + i)) (nI_add 0 i) ?_
      refine lv_imul X.1 X.2.1 dX10_copyBook_79 ?_
      refine zr_eqi (v := nI (3 * (0 + i))) (pk_mul 3 (0 + i)) ?_
      refine lv_iload X.1 X.2.1 dX10_copyBook_80 (lv_at hl 0 rfl) ?_
      refine lv_iadd X.1 X.2.1 dX10_copyBook_82 ?_
      refine zr_eqi (v := nI ((3 * (0 + i)) + 0)) (nI_add (3 * (0 + i)) 0) ?_
      have hx_8 := nI_clamp (n := (3 * (0 + i)) + 0) (by omega)
      refine zr_iald (v := u 7 ((3 * (0 + i)) + 0)) X hW dX10_copyBook_83 (zm_s7 hM) rfl rfl (zi_vp (by rw [nI_toInt (by omega)]; omega)) ((show zm_mix u_7 g0 7 (nI ((3 * (0 + i)) + 0) : Int32).toNatClampNeg = u_7 7 ((3 * (0 + i)) + 0) from (by rw [hx_8]; rfl)).trans ((show u_7 7 ((3 * (0 + i)) + 0) = u_4 7 ((3 * (0 + i)) + 0) from (by rw [hu_7]; rfl)).trans ((show u_4 7 ((3 * (0 + i)) + 0) = w 7 ((3 * (0 + i)) + 0) from (by rw [hu_4]; rfl)).trans (show w 7 ((3 * (0 + i)) + 0) = u 7 ((3 * (0 + i)) + 0) from (by rw [hw]; exact zs_cpkn u (by omega)))))) ?_
      have hx_9 := nI_clamp (n := (3 * (6 + i)) + 0) (by omega)
      refine zr_iast X hW dX10_copyBook_84 (zm_s7 hM) rfl rfl (zi_vp (by rw [nI_toInt (by omega)]; omega)) (fun H locs hW => ?_)
      rw [hx_9] at hW
      have hW : zw_St Y N0 ad sh (zm_mix (zm_w u_7 7 ((3 * (6 + i)) + 0) (u 7 ((3 * (0 + i)) + 0))) g0) s H locs := zm_st (by decide) hW
      obtain ⟨u_10, hu_10⟩ : ∃ z : zm_T, z = zm_w u_7 7 ((3 * (6 + i)) + 0) (u 7 ((3 * (0 + i)) + 0)) := ⟨_, rfl⟩
      rw [← hu_10] at hW
      refine lv_iinc (v := 1) (lv' := [(5, .int 1), (4, .int (nI (i))), (3, .int (zs_cnt u 0 i)), (0, .ref (ad 0)), (1, .int 0), (2, .int 6)]) X.1 X.2.1 dX10_copyBook_85 hl (k := 0) rfl (by decide) (by decide) rfl (fun ls hl => ?_)
      refine lv_goto (tgt := 51) X.1 X.2.1 dX10_copyBook_88 (by decide) ?_
      refine lv_iload X.1 X.2.1 dX10_copyBook_51 (lv_at hl 0 rfl) ?_
      refine lv_iconst (v := 3) X.1 X.2.1 dX10_copyBook_53 (by decide) ?_
      refine zr_icmp_ge (a := 1) (b := 3) (tgt := 91) X dX10_copyBook_54 (by decide) (by decide) (by decide) (fun c9 => absurd c9 (by decide)) (fun _ => ?_)
      refine lv_aload_n X.1 X.2.1 dX10_copyBook_57 rfl (lv_at hl 3 rfl) ?_
      refine zr_get (v := .ref (ad 7)) X hW fs_X10_26_9 dX10_copyBook_58 (zm_s0 hM) rfl rfl rfl ?_
      refine lv_iconst (v := 3) X.1 X.2.1 dX10_copyBook_61 (by decide) ?_
      refine lv_iload_n X.1 X.2.1 dX10_copyBook_62 rfl (lv_at hl 5 rfl) ?_
      refine lv_iload X.1 X.2.1 dX10_copyBook_63 (lv_at hl 1 rfl) ?_
      refine lv_iadd X.1 X.2.1 dX10_copyBook_65 ?_
      refine zr_eqi (v := nI (6 + i)) (nI_add 6 i) ?_
      refine lv_imul X.1 X.2.1 dX10_copyBook_66 ?_
      refine zr_eqi (v := nI (3 * (6 + i))) (pk_mul 3 (6 + i)) ?_
      refine lv_iload X.1 X.2.1 dX10_copyBook_67 (lv_at hl 0 rfl) ?_
      refine lv_iadd X.1 X.2.1 dX10_copyBook_69 ?_
      refine zr_eqi (v := nI ((3 * (6 + i)) + 1)) (nI_add (3 * (6 + i)) 1) ?_
      refine lv_aload_n X.1 X.2.1 dX10_copyBook_70 rfl (lv_at hl 3 rfl) ?_
      refine zr_get (v := .ref (ad 7)) X hW fs_X10_26_9 dX10_copyBook_71 (zm_s0 hM) rfl rfl rfl ?_
      refine lv_iconst (v := 3) X.1 X.2.1 dX10_copyBook_74 (by decide) ?_
      refine lv_iload_n X.1 X.2.1 dX10_copyBook_75 rfl (lv_at hl 4 rfl) ?_
      refine lv_iload X.1 X.2.1 dX10_copyBook_76 (lv_at hl 1 rfl) ?_
      refine lv_iadd X.1 X.2.1 dX10_copyBook_78 ?_
      refine zr_eqi (v := nI (0 + i)) (nI_add 0 i) ?_
      refine lv_imul X.1 X.2.1 dX10_copyBook_79 ?_
      refine zr_eqi (v := nI (3 * (0 + i))) (pk_mul 3 (0 + i)) ?_
      refine lv_iload X.1 X.2.1 dX10_copyBook_80 (lv_at hl 0 rfl) ?_
      refine lv_iadd X.1 X.2.1 dX10_copyBook_82 ?_
      refine zr_eqi (v := nI ((3 * (0 + i)) + 1)) (nI_add (3 * (0 + i)) 1) ?_
      have hx_11 := nI_clamp (n := (3 * (0 + i)) + 1) (by omega)
      refine zr_iald (v := u 7 ((3 * (0 + i)) + 1)) X hW dX10_copyBook_83 (zm_s7 hM) rfl rfl (zi_vp (by rw [nI_toInt (by omega)]; omega)) ((show zm_mix u_10 g0 7 (nI ((3 * (0 + i)) + 1) : Int32).toNatClampNeg = u_10 7 ((3 * (0 + i)) + 1) from (by rw [hx_11]; rfl)).trans ((show u_10 7 ((3 * (0 + i)) + 1) = u_7 7 ((3 * (0 + i)) + 1) from (by rw [hu_10]; exact zm_wn _ _ (Or.inr (by omega)))).trans ((show u_7 7 ((3 * (0 + i)) + 1) = u_4 7 ((3 * (0 + i)) + 1) from (by rw [hu_7]; rfl)).trans ((show u_4 7 ((3 * (0 + i)) + 1) = w 7 ((3 * (0 + i)) + 1) from (by rw [hu_4]; rfl)).trans (show w 7 ((3 * (0 + i)) + 1) = u 7 ((3 * (0 + i)) + 1) from (by rw [hw]; exact zs_cpkn u (by omega))))))) ?_
      have hx_12 := nI_clamp (n := (3 * (6 + i)) + 1) (by omega)
      refine zr_iast X hW dX10_copyBook_84 (zm_s7 hM) rfl rfl (zi_vp (by rw [nI_toInt (by omega)]; omega)) (fun H locs hW => ?_)
      rw [hx_12] at hW
      have hW : zw_St Y N0 ad sh (zm_mix (zm_w u_10 7 ((3 * (6 + i)) + 1) (u 7 ((3 * (0 + i)) + 1))) g0) s H locs := zm_st (by decide) hW
      obtain ⟨u_13, hu_13⟩ : ∃ z : zm_T, z = zm_w u_10 7 ((3 * (6 + i)) + 1) (u 7 ((3 * (0 + i)) + 1)) := ⟨_, rfl⟩
      rw [← hu_13] at hW
      refine lv_iinc (v := 2) (lv' := [(5, .int 2), (4, .int (nI (i))), (3, .int (zs_cnt u 0 i)), (0, .ref (ad 0)), (1, .int 0), (2, .int 6)]) X.1 X.2.1 dX10_copyBook_85 hl (k := 0) rfl (by decide) (by decide) rfl (fun ls hl => ?_)
      refine lv_goto (tgt := 51) X.1 X.2.1 dX10_copyBook_88 (by decide) ?_
      refine lv_iload X.1 X.2.1 dX10_copyBook_51 (lv_at hl 0 rfl) ?_
      refine lv_iconst (v := 3) X.1 X.2.1 dX10_copyBook_53 (by decide) ?_
      refine zr_icmp_ge (a := 2) (b := 3) (tgt := 91) X dX10_copyBook_54 (by decide) (by decide) (by decide) (fun c9 => absurd c9 (by decide)) (fun _ => ?_)
      refine lv_aload_n X.1 X.2.1 dX10_copyBook_57 rfl (lv_at hl 3 rfl) ?_
      refine zr_get (v := .ref (ad 7)) X hW fs_X10_26_9 dX10_copyBook_58 (zm_s0 hM) rfl rfl rfl ?_
      refine lv_iconst (v := 3) X.1 X.2.1 dX10_copyBook_61 (by decide) ?_
      refine lv_iload_n X.1 X.2.1 dX10_copyBook_62 rfl (lv_at hl 5 rfl) ?_
      refine lv_iload X.1 X.2.1 dX10_copyBook_63 (lv_at hl 1 rfl) ?_
      refine lv_iadd X.1 X.2.1 dX10_copyBook_65 ?_
      refine zr_eqi (v := nI (6 + i)) (nI_add 6 i) ?_
      refine lv_imul X.1 X.2.1 dX10_copyBook_66 ?_
      refine zr_eqi (v := nI (3 * (6 + i))) (pk_mul 3 (6 + i)) ?_
      refine lv_iload X.1 X.2.1 dX10_copyBook_67 (lv_at hl 0 rfl) ?_
      refine lv_iadd X.1 X.2.1 dX10_copyBook_69 ?_
      refine zr_eqi (v := nI ((3 * (6 + i)) + 2)) (nI_add (3 * (6 + i)) 2) ?_
      refine lv_aload_n X.1 X.2.1 dX10_copyBook_70 rfl (lv_at hl 3 rfl) ?_
      refine zr_get (v := .ref (ad 7)) X hW fs_X10_26_9 dX10_copyBook_71 (zm_s0 hM) rfl rfl rfl ?_
      refine lv_iconst (v := 3) X.1 X.2.1 dX10_copyBook_74 (by decide) ?_
      refine lv_iload_n X.1 X.2.1 dX10_copyBook_75 rfl (lv_at hl 4 rfl) ?_
      refine lv_iload X.1 X.2.1 dX10_copyBook_76 (lv_at hl 1 rfl) ?_
      refine lv_iadd X.1 X.2.1 dX10_copyBook_78 ?_
      refine zr_eqi (v := nI (0 + i)) (nI_add 0 i) ?_
      refine lv_imul X.1 X.2.1 dX10_copyBook_79 ?_
      refine zr_eqi (v := nI (3 * (0 + i))) (pk_mul 3 (0 + i)) ?_
      refine lv_iload X.1 X.2.1 dX10_copyBook_80 (lv_at hl 0 rfl) ?_
      refine lv_iadd X.1 X.2.1 dX10_copyBook_82 ?_
      refine zr_eqi (v := nI ((3 * (0 + i)) + 2)) (nI_add (3 * (0 + i)) 2) ?_
      have hx_14 := nI_clamp (n := (3 * (0 + i)) + 2) (by omega)
      refine zr_iald (v := u 7 ((3 * (0 + i)) + 2)) X hW dX10_copyBook_83 (zm_s7 hM) rfl rfl (zi_vp (by rw [nI_toInt (by omega)]; omega)) ((show zm_mix u_13 g0 7 (nI ((3 * (0 + i)) + 2) : Int32).toNatClampNeg = u_13 7 ((3 * (0 + i)) + 2) from (by rw [hx_14]; rfl)).trans ((show u_13 7 ((3 * (0 + i)) + 2) = u_10 7 ((3 * (0 + i)) + 2) from (by rw [hu_13]; exact zm_wn _ _ (Or.inr (by omega)))).trans ((show u_10 7 ((3 * (0 + i)) + 2) = u_7 7 ((3 * (0 + i)) + 2) from (by rw [hu_10]; exact zm_wn _ _ (Or.inr (by omega)))).trans ((show u_7 7 ((3 * (0 + i)) + 2) = u_4 7 ((3 * (0 + i)) + 2) from (by rw [hu_7]; rfl)).trans ((show u_4 7 ((3 * (0 + i)) + 2) = w 7 ((3 * (0 + i)) + 2) from (by rw [hu_4]; rfl)).trans (show w 7 ((3 * (0 + i)) + 2) = u 7 ((3 * (0 + i)) + 2) from (by rw [hw]; exact zs_cpkn u (by omega)))))))) ?_
      have hx_15 := nI_clamp (n := (3 * (6 + i)) + 2) (by omega)
      refine zr_iast X hW dX10_copyBook_84 (zm_s7 hM) rfl rfl (zi_vp (by rw [nI_toInt (by omega)]; omega)) (fun H locs hW => ?_)
      rw [hx_15] at hW
      have hW : zw_St Y N0 ad sh (zm_mix (zm_w u_13 7 ((3 * (6 + i)) + 2) (u 7 ((3 * (0 + i)) + 2))) g0) s H locs := zm_st (by decide) hW
      obtain ⟨u_16, hu_16⟩ : ∃ z : zm_T, z = zm_w u_13 7 ((3 * (6 + i)) + 2) (u 7 ((3 * (0 + i)) + 2)) := ⟨_, rfl⟩
      rw [← hu_16] at hW
      refine lv_iinc (v := 3) (lv' := [(5, .int 3), (4, .int (nI (i))), (3, .int (zs_cnt u 0 i)), (0, .ref (ad 0)), (1, .int 0), (2, .int 6)]) X.1 X.2.1 dX10_copyBook_85 hl (k := 0) rfl (by decide) (by decide) rfl (fun ls hl => ?_)
      refine lv_goto (tgt := 51) X.1 X.2.1 dX10_copyBook_88 (by decide) ?_
      refine lv_iload X.1 X.2.1 dX10_copyBook_51 (lv_at hl 0 rfl) ?_
      refine lv_iconst (v := 3) X.1 X.2.1 dX10_copyBook_53 (by decide) ?_
      refine zr_icmp_ge (a := 3) (b := 3) (tgt := 91) X dX10_copyBook_54 (by decide) (by decide) (by decide) (fun _ => ?_) (fun c9 => absurd c9 (by decide))
      refine lv_aload_n X.1 X.2.1 dX10_copyBook_91 rfl (lv_at hl 3 rfl) ?_
      refine zr_get (v := .ref (ad 5)) X hW fs_X10_20_9 dX10_copyBook_92 (zm_s0 hM) rfl rfl rfl ?_
      refine lv_iload_n X.1 X.2.1 dX10_copyBook_95 rfl (lv_at hl 4 rfl) ?_
      refine lv_iload X.1 X.2.1 dX10_copyBook_96 (lv_at hl 1 rfl) ?_
      refine lv_iadd X.1 X.2.1 dX10_copyBook_98 ?_
      refine zr_eqi (v := nI (0 + i)) (nI_add 0 i) ?_
      have hx_17 := nI_clamp (n := 0 + i) (by omega)
      refine zr_iald (v := u 5 (0 + i)) X hW dX10_copyBook_99 (zm_s5 hM) rfl rfl (zi_vp (by rw [nI_toInt (by omega)]; omega)) ((show zm_mix u_16 g0 5 (nI (0 + i) : Int32).toNatClampNeg = u_16 5 (0 + i) from (by rw [hx_17]; rfl)).trans ((show u_16 5 (0 + i) = u_13 5 (0 + i) from (by rw [hu_16]; rfl)).trans ((show u_13 5 (0 + i) = u_10 5 (0 + i) from (by rw [hu_13]; rfl)).trans ((show u_10 5 (0 + i) = u_7 5 (0 + i) from (by rw [hu_10]; rfl)).trans ((show u_7 5 (0 + i) = u_4 5 (0 + i) from (by rw [hu_7]; rfl)).trans ((show u_4 5 (0 + i) = w 5 (0 + i) from (by rw [hu_4]; exact zm_wn _ _ (Or.inr (by omega)))).trans (show w 5 (0 + i) = u 5 (0 + i) from (by rw [hw]; exact zs_cpkn u (by omega))))))))) ?_
      refine zr_if_lt (a := (u 5 (0 + i)).toInt) (tgt := 109) X dX10_copyBook_100 (by decide) rfl (fun c_18 => ?_) (fun c_18 => ?_)
      · refine lv_iload_n X.1 X.2.1 dX10_copyBook_109 rfl (lv_at hl 2 rfl) ?_
        refine lv_istore_n (lv' := [(3, .int (zs_cnt u 0 i)), (5, .int 3), (4, .int (nI (i))), (0, .ref (ad 0)), (1, .int 0), (2, .int 6)]) X.1 X.2.1 dX10_copyBook_110 rfl hl (by decide) rfl (fun ls hl => ?_)
        refine lv_iinc (v := nI (i + 1)) (lv' := [(4, .int (nI (i + 1))), (3, .int (zs_cnt u 0 i)), (5, .int 3), (0, .ref (ad 0)), (1, .int 0), (2, .int 6)]) X.1 X.2.1 dX10_copyBook_111 hl (k := 2) rfl (nI_add i 1) (by decide) rfl (fun ls hl => ?_)
        refine lv_goto (tgt := 5) X.1 X.2.1 dX10_copyBook_114 (by decide) ?_
        refine ih (i + 1) _ _ _ _ (by omega) (by omega) (by rw [hu_16, hu_13, hu_10, hu_7, hu_4, hw]; exact zs_cpks u 0 6 i) hW ?_
        rw [show zs_cnt u 0 (i + 1) = zs_cnt u 0 i from if_neg (by omega)]
        exact lv_sub hl [0, 1, 3, 4, 5] rfl
      · refine lv_iload_n X.1 X.2.1 dX10_copyBook_103 rfl (lv_at hl 2 rfl) ?_
        refine lv_iconst (v := 1) X.1 X.2.1 dX10_copyBook_104 (by decide) ?_
        refine lv_iadd X.1 X.2.1 dX10_copyBook_105 ?_
        refine lv_goto (tgt := 110) X.1 X.2.1 dX10_copyBook_106 (by decide) ?_
        refine lv_istore_n (lv' := [(3, .int ((zs_cnt u 0 i) + 1)), (5, .int 3), (4, .int (nI (i))), (0, .ref (ad 0)), (1, .int 0), (2, .int 6)]) X.1 X.2.1 dX10_copyBook_110 rfl hl (by decide) rfl (fun ls hl => ?_)
        refine lv_iinc (v := nI (i + 1)) (lv' := [(4, .int (nI (i + 1))), (3, .int ((zs_cnt u 0 i) + 1)), (5, .int 3), (0, .ref (ad 0)), (1, .int 0), (2, .int 6)]) X.1 X.2.1 dX10_copyBook_111 hl (k := 2) rfl (nI_add i 1) (by decide) rfl (fun ls hl => ?_)
        refine lv_goto (tgt := 5) X.1 X.2.1 dX10_copyBook_114 (by decide) ?_
        refine ih (i + 1) _ _ _ _ (by omega) (by omega) (by rw [hu_16, hu_13, hu_10, hu_7, hu_4, hw]; exact zs_cpks u 0 6 i) hW ?_
        rw [show zs_cnt u 0 (i + 1) = (zs_cnt u 0 i) + 1 from if_pos (by omega)]
        exact lv_sub hl [0, 1, 3, 4, 5] rfl

set_option maxHeartbeats 4000000 in
set_option maxRecDepth 100000 in
theorem c_X10_copyBook_s (l : Launch) (Y : zw_Y) (N0 : Nat) (ad : Nat → Nat) (sh : Nat → Option zw_Sh) (u g0 : zm_T) (hM : zm_S sh) : zw_Met l Y N0 yX10_copyBook cX10_copyBook 6 (some .int) 0 0 0 0 ad sh (zm_mix u g0) [.ref (ad 0), .int 0, .int 6] (zp_G ad sh (fun v g' => ∃ r : Int32, v = some (.int r) ∧ r = zs_cnt u 0 6 ∧ g' = zm_mix (zs_cp u 0 6) g0)) := by
  refine zw_meth (by decide) (Nat.le_of_ble_eq_true rfl) ?_
  intro p e s m below meth c ls X hnm hl hW
  have hl : lv_has ls 6 [(0, .ref (ad 0)), (1, .int 0), (2, .int 6)] := hl
  refine lv_iconst (v := 0) X.1 X.2.1 dX10_copyBook_0 (by decide) ?_
  refine lv_istore_n (lv' := [(3, .int 0), (0, .ref (ad 0)), (1, .int 0), (2, .int 6)]) X.1 X.2.1 dX10_copyBook_1 rfl hl (by decide) rfl (fun ls hl => ?_)
  refine lv_iconst (v := 0) X.1 X.2.1 dX10_copyBook_2 (by decide) ?_
  refine lv_istore (lv' := [(4, .int 0), (3, .int 0), (0, .ref (ad 0)), (1, .int 0), (2, .int 6)]) X.1 X.2.1 dX10_copyBook_3 hl (by decide) rfl (fun ls hl => ?_)
  exact lp_copyBook_s l Y N0 ad sh u g0 hM X hnm 7 0 u _ _ _ (by omega) (by omega) (zs_cpk0 u 0 6).symm hW (lv_sub hl [0, 1, 2, 3, 4] rfl)

set_option maxHeartbeats 8000000 in
set_option maxRecDepth 100000 in
theorem lp_copyBook_c {p : Program} {e : Env} {s : State} {m : MethodId} {below : List Frame} {meth : Method} {c : Code} (l : Launch) (Y : zw_Y) (N0 : Nat) (ad : Nat → Nat) (sh : Nat → Option zw_Sh) (u g0 : zm_T) (hM : zm_S sh) (X : zw_X p m meth c cX10_copyBook 6 (some .int) s ([.ref (ad 0), .int 6, .int 0] : List Value).toArray yX10_copyBook.cls Y) (hnm : meth.name = yX10_copyBook.name) :
    ∀ (n : Nat) (i : Nat) (w : zm_T) (H : Heap) (locs : List Loc) (ls : Array Slot), i ≤ 6 → 6 - i < n → w = zs_cpk u 6 0 i → zw_St Y N0 ad sh (zm_mix w g0) s H locs → lv_has ls 6 [(4, .int (nI i)), (3, .int (zs_cnt u 6 i)), (0, .ref (ad 0)), (1, .int 6), (2, .int 0)] → W p l e ({ frames := 0, cells := 0, slots := 0, locals := 0 } : Room) s m ([.ref (ad 0), .int 6, .int 0] : List Value).toArray below meth c H locs 0 0 (MQ below (zw_Q Y N0 (zp_G ad sh (fun v g' => ∃ r : Int32, v = some (.int r) ∧ r = zs_cnt u 6 6 ∧ g' = zm_mix (zs_cp u 6 0) g0))) ([.ref (ad 0), .int 6, .int 0] : List Value).toArray s 0 0 (fun q => N0 ≤ q)) (F0 m 5 ls []) := by
  intro n
  induction n with
  | zero => intro i w H locs ls h1 h2; omega
  | succ n ih =>
    intro i w H locs ls hi hn hw hW hl
    refine lv_iload X.1 X.2.1 dX10_copyBook_5 (lv_at hl 0 rfl) ?_
    refine lv_bipush (v := 6) X.1 X.2.1 dX10_copyBook_7 (by decide) ?_
    refine zr_icmp_ge (a := ((i : Nat) : Int)) (b := 6) (tgt := 117) X dX10_copyBook_9 (by decide) (nI_toInt (by omega)) (by decide) (fun c_1 => ?_) (fun c_1 => ?_)
    · refine lv_iload_n X.1 X.2.1 dX10_copyBook_117 rfl (lv_at hl 1 rfl) ?_
      have h6 : i = 6 := by omega
      subst h6
      subst hw
      exact zr_iret X hW dX10_copyBook_118 (Nat.le_refl _) (Nat.le_refl _) ⟨rfl, rfl, _, rfl, rfl, rfl⟩
    · refine lv_aload_n X.1 X.2.1 dX10_copyBook_12 rfl (lv_at hl 2 rfl) ?_
      refine zr_get (v := .ref (ad 5)) X hW fs_X10_20_9 dX10_copyBook_13 (zm_s0 hM) rfl rfl rfl ?_
      refine lv_iload_n X.1 X.2.1 dX10_copyBook_16 rfl (lv_at hl 4 rfl) ?_
      refine lv_iload X.1 X.2.1 dX10_copyBook_17 (lv_at hl 0 rfl) ?_
      refine lv_iadd X.1 X.2.1 dX10_copyBook_19 ?_
      refine zr_eqi (v := nI (0 + i)) (nI_add 0 i) ?_
      refine lv_aload_n X.1 X.2.1 dX10_copyBook_20 rfl (lv_at hl 2 rfl) ?_
      refine zr_get (v := .ref (ad 5)) X hW fs_X10_20_9 dX10_copyBook_21 (zm_s0 hM) rfl rfl rfl ?_
      refine lv_iload_n X.1 X.2.1 dX10_copyBook_24 rfl (lv_at hl 3 rfl) ?_
      refine lv_iload X.1 X.2.1 dX10_copyBook_25 (lv_at hl 0 rfl) ?_
      refine lv_iadd X.1 X.2.1 dX10_copyBook_27 ?_
      refine zr_eqi (v := nI (6 + i)) (nI_add 6 i) ?_
      have hx_2 := nI_clamp (n := 6 + i) (by omega)
      refine zr_iald (v := u 5 (6 + i)) X hW dX10_copyBook_28 (zm_s5 hM) rfl rfl (zi_vp (by rw [nI_toInt (by omega)]; omega)) ((show zm_mix w g0 5 (nI (6 + i) : Int32).toNatClampNeg = w 5 (6 + i) from (by rw [hx_2]; rfl)).trans (show w 5 (6 + i) = u 5 (6 + i) from (by rw [hw]; exact zs_cpkn u (by omega)))) ?_
      have hx_3 := nI_clamp (n := 0 + i) (by omega)
      refine zr_iast X hW dX10_copyBook_29 (zm_s5 hM) rfl rfl (zi_vp (by rw [nI_toInt (by omega)]; omega)) (fun H locs hW => ?_)
      rw [hx_3] at hW
      have hW : zw_St Y N0 ad sh (zm_mix (zm_w w 5 (0 + i) (u 5 (6 + i))) g0) s H locs := zm_st (by decide) hW
      obtain ⟨u_4, hu_4⟩ : ∃ z : zm_T, z = zm_w w 5 (0 + i) (u 5 (6 + i)) := ⟨_, rfl⟩
      rw [← hu_4] at hW
      refine lv_aload_n X.1 X.2.1 dX10_copyBook_30 rfl (lv_at hl 2 rfl) ?_
      refine zr_get (v := .ref (ad 6)) X hW fs_X10_23_9 dX10_copyBook_31 (zm_s0 hM) rfl rfl rfl ?_
      refine lv_iload_n X.1 X.2.1 dX10_copyBook_34 rfl (lv_at hl 4 rfl) ?_
      refine lv_iload X.1 X.2.1 dX10_copyBook_35 (lv_at hl 0 rfl) ?_
      refine lv_iadd X.1 X.2.1 dX10_copyBook_37 ?_
      refine zr_eqi (v := nI (0 + i)) (nI_add 0 i) ?_
      refine lv_aload_n X.1 X.2.1 dX10_copyBook_38 rfl (lv_at hl 2 rfl) ?_
      refine zr_get (v := .ref (ad 6)) X hW fs_X10_23_9 dX10_copyBook_39 (zm_s0 hM) rfl rfl rfl ?_
      refine lv_iload_n X.1 X.2.1 dX10_copyBook_42 rfl (lv_at hl 3 rfl) ?_
      refine lv_iload X.1 X.2.1 dX10_copyBook_43 (lv_at hl 0 rfl) ?_
      refine lv_iadd X.1 X.2.1 dX10_copyBook_45 ?_
      refine zr_eqi (v := nI (6 + i)) (nI_add 6 i) ?_
      have hx_5 := nI_clamp (n := 6 + i) (by omega)
      refine zr_iald (v := u 6 (6 + i)) X hW dX10_copyBook_46 (zm_s6 hM) rfl rfl (zi_vp (by rw [nI_toInt (by omega)]; omega)) ((show zm_mix u_4 g0 6 (nI (6 + i) : Int32).toNatClampNeg = u_4 6 (6 + i) from (by rw [hx_5]; rfl)).trans ((show u_4 6 (6 + i) = w 6 (6 + i) from (by rw [hu_4]; rfl)).trans (show w 6 (6 + i) = u 6 (6 + i) from (by rw [hw]; exact zs_cpkn u (by omega))))) ?_
      have hx_6 := nI_clamp (n := 0 + i) (by omega)
      refine zr_iast X hW dX10_copyBook_47 (zm_s6 hM) rfl rfl (zi_vp (by rw [nI_toInt (by omega)]; omega)) (fun H locs hW => ?_)
      rw [hx_6] at hW
      have hW : zw_St Y N0 ad sh (zm_mix (zm_w u_4 6 (0 + i) (u 6 (6 + i))) g0) s H locs := zm_st (by decide) hW
      obtain ⟨u_7, hu_7⟩ : ∃ z : zm_T, z = zm_w u_4 6 (0 + i) (u 6 (6 + i)) := ⟨_, rfl⟩
      rw [← hu_7] at hW
      refine lv_iconst (v := 0) X.1 X.2.1 dX10_copyBook_48 (by decide) ?_
      refine lv_istore (lv' := [(5, .int 0), (4, .int (nI (i))), (3, .int (zs_cnt u 6 i)), (0, .ref (ad 0)), (1, .int 6), (2, .int 0)]) X.1 X.2.1 dX10_copyBook_49 hl (by decide) rfl (fun ls hl => ?_)
      refine lv_iload X.1 X.2.1 dX10_copyBook_51 (lv_at hl 0 rfl) ?_
      refine lv_iconst (v := 3) X.1 X.2.1 dX10_copyBook_53 (by decide) ?_
      refine zr_icmp_ge (a := 0) (b := 3) (tgt := 91) X dX10_copyBook_54 (by decide) (by decide) (by decide) (fun c9 => absurd c9 (by decide)) (fun _ => ?_)
      refine lv_aload_n X.1 X.2.1 dX10_copyBook_57 rfl (lv_at hl 3 rfl) ?_
      refine zr_get (v := .ref (ad 7)) X hW fs_X10_26_9 dX10_copyBook_58 (zm_s0 hM) rfl rfl rfl ?_
      refine lv_iconst (v := 3) X.1 X.2.1 dX10_copyBook_61 (by decide) ?_
      refine lv_iload_n X.1 X.2.1 dX10_copyBook_62 rfl (lv_at hl 5 rfl) ?_
      refine lv_iload X.1 X.2.1 dX10_copyBook_63 (lv_at hl 1 rfl) ?_
      refine lv_iadd X.1 X.2.1 dX10_copyBook_65 ?_
      refine zr_eqi (v := nI (0 + i)) (nI_add 0 i) ?_
      refine lv_imul X.1 X.2.1 dX10_copyBook_66 ?_
      refine zr_eqi (v := nI (3 * (0 + i))) (pk_mul 3 (0 + i)) ?_
      refine lv_iload X.1 X.2.1 dX10_copyBook_67 (lv_at hl 0 rfl) ?_
      refine lv_iadd X.1 X.2.1 dX10_copyBook_69 ?_
      refine zr_eqi (v := nI ((3 * (0 + i)) + 0)) (nI_add (3 * (0 + i)) 0) ?_
      refine lv_aload_n X.1 X.2.1 dX10_copyBook_70 rfl (lv_at hl 3 rfl) ?_
      refine zr_get (v := .ref (ad 7)) X hW fs_X10_26_9 dX10_copyBook_71 (zm_s0 hM) rfl rfl rfl ?_
      refine lv_iconst (v := 3) X.1 X.2.1 dX10_copyBook_74 (by decide) ?_
      refine lv_iload_n X.1 X.2.1 dX10_copyBook_75 rfl (lv_at hl 4 rfl) ?_
      refine lv_iload X.1 X.2.1 dX10_copyBook_76 (lv_at hl 1 rfl) ?_
      refine lv_iadd X.1 X.2.1 dX10_copyBook_78 ?_
      refine zr_eqi (v := nI (6 + i)) (nI_add 6 i) ?_
      refine lv_imul X.1 X.2.1 dX10_copyBook_79 ?_
      refine zr_eqi (v := nI (3 * (6 + i))) (pk_mul 3 (6 + i)) ?_
      refine lv_iload X.1 X.2.1 dX10_copyBook_80 (lv_at hl 0 rfl) ?_
      refine lv_iadd X.1 X.2.1 dX10_copyBook_82 ?_
      refine zr_eqi (v := nI ((3 * (6 + i)) + 0)) (nI_add (3 * (6 + i)) 0) ?_
      have hx_8 := nI_clamp (n := (3 * (6 + i)) + 0) (by omega)
      refine zr_iald (v := u 7 ((3 * (6 + i)) + 0)) X hW dX10_copyBook_83 (zm_s7 hM) rfl rfl (zi_vp (by rw [nI_toInt (by omega)]; omega)) ((show zm_mix u_7 g0 7 (nI ((3 * (6 + i)) + 0) : Int32).toNatClampNeg = u_7 7 ((3 * (6 + i)) + 0) from (by rw [hx_8]; rfl)).trans ((show u_7 7 ((3 * (6 + i)) + 0) = u_4 7 ((3 * (6 + i)) + 0) from (by rw [hu_7]; rfl)).trans ((show u_4 7 ((3 * (6 + i)) + 0) = w 7 ((3 * (6 + i)) + 0) from (by rw [hu_4]; rfl)).trans (show w 7 ((3 * (6 + i)) + 0) = u 7 ((3 * (6 + i)) + 0) from (by rw [hw]; exact zs_cpkn u (by omega)))))) ?_
      have hx_9 := nI_clamp (n := (3 * (0 + i)) + 0) (by omega)
      refine zr_iast X hW dX10_copyBook_84 (zm_s7 hM) rfl rfl (zi_vp (by rw [nI_toInt (by omega)]; omega)) (fun H locs hW => ?_)
      rw [hx_9] at hW
      have hW : zw_St Y N0 ad sh (zm_mix (zm_w u_7 7 ((3 * (0 + i)) + 0) (u 7 ((3 * (6 + i)) + 0))) g0) s H locs := zm_st (by decide) hW
      obtain ⟨u_10, hu_10⟩ : ∃ z : zm_T, z = zm_w u_7 7 ((3 * (0 + i)) + 0) (u 7 ((3 * (6 + i)) + 0)) := ⟨_, rfl⟩
      rw [← hu_10] at hW
      refine lv_iinc (v := 1) (lv' := [(5, .int 1), (4, .int (nI (i))), (3, .int (zs_cnt u 6 i)), (0, .ref (ad 0)), (1, .int 6), (2, .int 0)]) X.1 X.2.1 dX10_copyBook_85 hl (k := 0) rfl (by decide) (by decide) rfl (fun ls hl => ?_)
      refine lv_goto (tgt := 51) X.1 X.2.1 dX10_copyBook_88 (by decide) ?_
      refine lv_iload X.1 X.2.1 dX10_copyBook_51 (lv_at hl 0 rfl) ?_
      refine lv_iconst (v := 3) X.1 X.2.1 dX10_copyBook_53 (by decide) ?_
      refine zr_icmp_ge (a := 1) (b := 3) (tgt := 91) X dX10_copyBook_54 (by decide) (by decide) (by decide) (fun c9 => absurd c9 (by decide)) (fun _ => ?_)
      refine lv_aload_n X.1 X.2.1 dX10_copyBook_57 rfl (lv_at hl 3 rfl) ?_
      refine zr_get (v := .ref (ad 7)) X hW fs_X10_26_9 dX10_copyBook_58 (zm_s0 hM) rfl rfl rfl ?_
      refine lv_iconst (v := 3) X.1 X.2.1 dX10_copyBook_61 (by decide) ?_
      refine lv_iload_n X.1 X.2.1 dX10_copyBook_62 rfl (lv_at hl 5 rfl) ?_
      refine lv_iload X.1 X.2.1 dX10_copyBook_63 (lv_at hl 1 rfl) ?_
      refine lv_iadd X.1 X.2.1 dX10_copyBook_65 ?_
      refine zr_eqi (v := nI (0 + i)) (nI_add 0 i) ?_
      refine lv_imul X.1 X.2.1 dX10_copyBook_66 ?_
      refine zr_eqi (v := nI (3 * (0 + i))) (pk_mul 3 (0 + i)) ?_
      refine lv_iload X.1 X.2.1 dX10_copyBook_67 (lv_at hl 0 rfl) ?_
      refine lv_iadd X.1 X.2.1 dX10_copyBook_69 ?_
      refine zr_eqi (v := nI ((3 * (0 + i)) + 1)) (nI_add (3 * (0 + i)) 1) ?_
      refine lv_aload_n X.1 X.2.1 dX10_copyBook_70 rfl (lv_at hl 3 rfl) ?_
      refine zr_get (v := .ref (ad 7)) X hW fs_X10_26_9 dX10_copyBook_71 (zm_s0 hM) rfl rfl rfl ?_
      refine lv_iconst (v := 3) X.1 X.2.1 dX10_copyBook_74 (by decide) ?_
      refine lv_iload_n X.1 X.2.1 dX10_copyBook_75 rfl (lv_at hl 4 rfl) ?_
      refine lv_iload X.1 X.2.1 dX10_copyBook_76 (lv_at hl 1 rfl) ?_
      refine lv_iadd X.1 X.2.1 dX10_copyBook_78 ?_
      refine zr_eqi (v := nI (6 + i)) (nI_add 6 i) ?_
      refine lv_imul X.1 X.2.1 dX10_copyBook_79 ?_
      refine zr_eqi (v := nI (3 * (6 + i))) (pk_mul 3 (6 + i)) ?_
      refine lv_iload X.1 X.2.1 dX10_copyBook_80 (lv_at hl 0 rfl) ?_
      refine lv_iadd X.1 X.2.1 dX10_copyBook_82 ?_
      refine zr_eqi (v := nI ((3 * (6 + i)) + 1)) (nI_add (3 * (6 + i)) 1) ?_
      have hx_11 := nI_clamp (n := (3 * (6 + i)) + 1) (by omega)
      refine zr_iald (v := u 7 ((3 * (6 + i)) + 1)) X hW dX10_copyBook_83 (zm_s7 hM) rfl rfl (zi_vp (by rw [nI_toInt (by omega)]; omega)) ((show zm_mix u_10 g0 7 (nI ((3 * (6 + i)) + 1) : Int32).toNatClampNeg = u_10 7 ((3 * (6 + i)) + 1) from (by rw [hx_11]; rfl)).trans ((show u_10 7 ((3 * (6 + i)) + 1) = u_7 7 ((3 * (6 + i)) + 1) from (by rw [hu_10]; exact zm_wn _ _ (Or.inr (by omega)))).trans ((show u_7 7 ((3 * (6 + i)) + 1) = u_4 7 ((3 * (6 + i)) + 1) from (by rw [hu_7]; rfl)).trans ((show u_4 7 ((3 * (6 + i)) + 1) = w 7 ((3 * (6 + i)) + 1) from (by rw [hu_4]; rfl)).trans (show w 7 ((3 * (6 + i)) + 1) = u 7 ((3 * (6 + i)) + 1) from (by rw [hw]; exact zs_cpkn u (by omega))))))) ?_
      have hx_12 := nI_clamp (n := (3 * (0 + i)) + 1) (by omega)
      refine zr_iast X hW dX10_copyBook_84 (zm_s7 hM) rfl rfl (zi_vp (by rw [nI_toInt (by omega)]; omega)) (fun H locs hW => ?_)
      rw [hx_12] at hW
      have hW : zw_St Y N0 ad sh (zm_mix (zm_w u_10 7 ((3 * (0 + i)) + 1) (u 7 ((3 * (6 + i)) + 1))) g0) s H locs := zm_st (by decide) hW
      obtain ⟨u_13, hu_13⟩ : ∃ z : zm_T, z = zm_w u_10 7 ((3 * (0 + i)) + 1) (u 7 ((3 * (6 + i)) + 1)) := ⟨_, rfl⟩
      rw [← hu_13] at hW
      refine lv_iinc (v := 2) (lv' := [(5, .int 2), (4, .int (nI (i))), (3, .int (zs_cnt u 6 i)), (0, .ref (ad 0)), (1, .int 6), (2, .int 0)]) X.1 X.2.1 dX10_copyBook_85 hl (k := 0) rfl (by decide) (by decide) rfl (fun ls hl => ?_)
      refine lv_goto (tgt := 51) X.1 X.2.1 dX10_copyBook_88 (by decide) ?_
      refine lv_iload X.1 X.2.1 dX10_copyBook_51 (lv_at hl 0 rfl) ?_
      refine lv_iconst (v := 3) X.1 X.2.1 dX10_copyBook_53 (by decide) ?_
      refine zr_icmp_ge (a := 2) (b := 3) (tgt := 91) X dX10_copyBook_54 (by decide) (by decide) (by decide) (fun c9 => absurd c9 (by decide)) (fun _ => ?_)
      refine lv_aload_n X.1 X.2.1 dX10_copyBook_57 rfl (lv_at hl 3 rfl) ?_
      refine zr_get (v := .ref (ad 7)) X hW fs_X10_26_9 dX10_copyBook_58 (zm_s0 hM) rfl rfl rfl ?_
      refine lv_iconst (v := 3) X.1 X.2.1 dX10_copyBook_61 (by decide) ?_
      refine lv_iload_n X.1 X.2.1 dX10_copyBook_62 rfl (lv_at hl 5 rfl) ?_
      refine lv_iload X.1 X.2.1 dX10_copyBook_63 (lv_at hl 1 rfl) ?_
      refine lv_iadd X.1 X.2.1 dX10_copyBook_65 ?_
      refine zr_eqi (v := nI (0 + i)) (nI_add 0 i) ?_
      refine lv_imul X.1 X.2.1 dX10_copyBook_66 ?_
      refine zr_eqi (v := nI (3 * (0 + i))) (pk_mul 3 (0 + i)) ?_
      refine lv_iload X.1 X.2.1 dX10_copyBook_67 (lv_at hl 0 rfl) ?_
      refine lv_iadd X.1 X.2.1 dX10_copyBook_69 ?_
      refine zr_eqi (v := nI ((3 * (0 + i)) + 2)) (nI_add (3 * (0 + i)) 2) ?_
      refine lv_aload_n X.1 X.2.1 dX10_copyBook_70 rfl (lv_at hl 3 rfl) ?_
      refine zr_get (v := .ref (ad 7)) X hW fs_X10_26_9 dX10_copyBook_71 (zm_s0 hM) rfl rfl rfl ?_
      refine lv_iconst (v := 3) X.1 X.2.1 dX10_copyBook_74 (by decide) ?_
      refine lv_iload_n X.1 X.2.1 dX10_copyBook_75 rfl (lv_at hl 4 rfl) ?_
      refine lv_iload X.1 X.2.1 dX10_copyBook_76 (lv_at hl 1 rfl) ?_
      refine lv_iadd X.1 X.2.1 dX10_copyBook_78 ?_
      refine zr_eqi (v := nI (6 + i)) (nI_add 6 i) ?_
      refine lv_imul X.1 X.2.1 dX10_copyBook_79 ?_
      refine zr_eqi (v := nI (3 * (6 + i))) (pk_mul 3 (6 + i)) ?_
      refine lv_iload X.1 X.2.1 dX10_copyBook_80 (lv_at hl 0 rfl) ?_
      refine lv_iadd X.1 X.2.1 dX10_copyBook_82 ?_
      refine zr_eqi (v := nI ((3 * (6 + i)) + 2)) (nI_add (3 * (6 + i)) 2) ?_
      have hx_14 := nI_clamp (n := (3 * (6 + i)) + 2) (by omega)
      refine zr_iald (v := u 7 ((3 * (6 + i)) + 2)) X hW dX10_copyBook_83 (zm_s7 hM) rfl rfl (zi_vp (by rw [nI_toInt (by omega)]; omega)) ((show zm_mix u_13 g0 7 (nI ((3 * (6 + i)) + 2) : Int32).toNatClampNeg = u_13 7 ((3 * (6 + i)) + 2) from (by rw [hx_14]; rfl)).trans ((show u_13 7 ((3 * (6 + i)) + 2) = u_10 7 ((3 * (6 + i)) + 2) from (by rw [hu_13]; exact zm_wn _ _ (Or.inr (by omega)))).trans ((show u_10 7 ((3 * (6 + i)) + 2) = u_7 7 ((3 * (6 + i)) + 2) from (by rw [hu_10]; exact zm_wn _ _ (Or.inr (by omega)))).trans ((show u_7 7 ((3 * (6 + i)) + 2) = u_4 7 ((3 * (6 + i)) + 2) from (by rw [hu_7]; rfl)).trans ((show u_4 7 ((3 * (6 + i)) + 2) = w 7 ((3 * (6 + i)) + 2) from (by rw [hu_4]; rfl)).trans (show w 7 ((3 * (6 + i)) + 2) = u 7 ((3 * (6 + i)) + 2) from (by rw [hw]; exact zs_cpkn u (by omega)))))))) ?_
      have hx_15 := nI_clamp (n := (3 * (0 + i)) + 2) (by omega)
      refine zr_iast X hW dX10_copyBook_84 (zm_s7 hM) rfl rfl (zi_vp (by rw [nI_toInt (by omega)]; omega)) (fun H locs hW => ?_)
      rw [hx_15] at hW
      have hW : zw_St Y N0 ad sh (zm_mix (zm_w u_13 7 ((3 * (0 + i)) + 2) (u 7 ((3 * (6 + i)) + 2))) g0) s H locs := zm_st (by decide) hW
      obtain ⟨u_16, hu_16⟩ : ∃ z : zm_T, z = zm_w u_13 7 ((3 * (0 + i)) + 2) (u 7 ((3 * (6 + i)) + 2)) := ⟨_, rfl⟩
      rw [← hu_16] at hW
      refine lv_iinc (v := 3) (lv' := [(5, .int 3), (4, .int (nI (i))), (3, .int (zs_cnt u 6 i)), (0, .ref (ad 0)), (1, .int 6), (2, .int 0)]) X.1 X.2.1 dX10_copyBook_85 hl (k := 0) rfl (by decide) (by decide) rfl (fun ls hl => ?_)
      refine lv_goto (tgt := 51) X.1 X.2.1 dX10_copyBook_88 (by decide) ?_
      refine lv_iload X.1 X.2.1 dX10_copyBook_51 (lv_at hl 0 rfl) ?_
      refine lv_iconst (v := 3) X.1 X.2.1 dX10_copyBook_53 (by decide) ?_
      refine zr_icmp_ge (a := 3) (b := 3) (tgt := 91) X dX10_copyBook_54 (by decide) (by decide) (by decide) (fun _ => ?_) (fun c9 => absurd c9 (by decide))
      refine lv_aload_n X.1 X.2.1 dX10_copyBook_91 rfl (lv_at hl 3 rfl) ?_
      refine zr_get (v := .ref (ad 5)) X hW fs_X10_20_9 dX10_copyBook_92 (zm_s0 hM) rfl rfl rfl ?_
      refine lv_iload_n X.1 X.2.1 dX10_copyBook_95 rfl (lv_at hl 4 rfl) ?_
      refine lv_iload X.1 X.2.1 dX10_copyBook_96 (lv_at hl 1 rfl) ?_
      refine lv_iadd X.1 X.2.1 dX10_copyBook_98 ?_
      refine zr_eqi (v := nI (6 + i)) (nI_add 6 i) ?_
      have hx_17 := nI_clamp (n := 6 + i) (by omega)
      refine zr_iald (v := u 5 (6 + i)) X hW dX10_copyBook_99 (zm_s5 hM) rfl rfl (zi_vp (by rw [nI_toInt (by omega)]; omega)) ((show zm_mix u_16 g0 5 (nI (6 + i) : Int32).toNatClampNeg = u_16 5 (6 + i) from (by rw [hx_17]; rfl)).trans ((show u_16 5 (6 + i) = u_13 5 (6 + i) from (by rw [hu_16]; rfl)).trans ((show u_13 5 (6 + i) = u_10 5 (6 + i) from (by rw [hu_13]; rfl)).trans ((show u_10 5 (6 + i) = u_7 5 (6 + i) from (by rw [hu_10]; rfl)).trans ((show u_7 5 (6 + i) = u_4 5 (6 + i) from (by rw [hu_7]; rfl)).trans ((show u_4 5 (6 + i) = w 5 (6 + i) from (by rw [hu_4]; exact zm_wn _ _ (Or.inr (by omega)))).trans (show w 5 (6 + i) = u 5 (6 + i) from (by rw [hw]; exact zs_cpkn u (by omega))))))))) ?_
      refine zr_if_lt (a := (u 5 (6 + i)).toInt) (tgt := 109) X dX10_copyBook_100 (by decide) rfl (fun c_18 => ?_) (fun c_18 => ?_)
      · refine lv_iload_n X.1 X.2.1 dX10_copyBook_109 rfl (lv_at hl 2 rfl) ?_
        refine lv_istore_n (lv' := [(3, .int (zs_cnt u 6 i)), (5, .int 3), (4, .int (nI (i))), (0, .ref (ad 0)), (1, .int 6), (2, .int 0)]) X.1 X.2.1 dX10_copyBook_110 rfl hl (by decide) rfl (fun ls hl => ?_)
        refine lv_iinc (v := nI (i + 1)) (lv' := [(4, .int (nI (i + 1))), (3, .int (zs_cnt u 6 i)), (5, .int 3), (0, .ref (ad 0)), (1, .int 6), (2, .int 0)]) X.1 X.2.1 dX10_copyBook_111 hl (k := 2) rfl (nI_add i 1) (by decide) rfl (fun ls hl => ?_)
        refine lv_goto (tgt := 5) X.1 X.2.1 dX10_copyBook_114 (by decide) ?_
        refine ih (i + 1) _ _ _ _ (by omega) (by omega) (by rw [hu_16, hu_13, hu_10, hu_7, hu_4, hw]; exact zs_cpks u 6 0 i) hW ?_
        rw [show zs_cnt u 6 (i + 1) = zs_cnt u 6 i from if_neg (by omega)]
        exact lv_sub hl [0, 1, 3, 4, 5] rfl
      · refine lv_iload_n X.1 X.2.1 dX10_copyBook_103 rfl (lv_at hl 2 rfl) ?_
        refine lv_iconst (v := 1) X.1 X.2.1 dX10_copyBook_104 (by decide) ?_
        refine lv_iadd X.1 X.2.1 dX10_copyBook_105 ?_
        refine lv_goto (tgt := 110) X.1 X.2.1 dX10_copyBook_106 (by decide) ?_
        refine lv_istore_n (lv' := [(3, .int ((zs_cnt u 6 i) + 1)), (5, .int 3), (4, .int (nI (i))), (0, .ref (ad 0)), (1, .int 6), (2, .int 0)]) X.1 X.2.1 dX10_copyBook_110 rfl hl (by decide) rfl (fun ls hl => ?_)
        refine lv_iinc (v := nI (i + 1)) (lv' := [(4, .int (nI (i + 1))), (3, .int ((zs_cnt u 6 i) + 1)), (5, .int 3), (0, .ref (ad 0)), (1, .int 6), (2, .int 0)]) X.1 X.2.1 dX10_copyBook_111 hl (k := 2) rfl (nI_add i 1) (by decide) rfl (fun ls hl => ?_)
        refine lv_goto (tgt := 5) X.1 X.2.1 dX10_copyBook_114 (by decide) ?_
        refine ih (i + 1) _ _ _ _ (by omega) (by omega) (by rw [hu_16, hu_13, hu_10, hu_7, hu_4, hw]; exact zs_cpks u 6 0 i) hW ?_
        rw [show zs_cnt u 6 (i + 1) = (zs_cnt u 6 i) + 1 from if_pos (by omega)]
        exact lv_sub hl [0, 1, 3, 4, 5] rfl

set_option maxHeartbeats 4000000 in
set_option maxRecDepth 100000 in
theorem c_X10_copyBook_c (l : Launch) (Y : zw_Y) (N0 : Nat) (ad : Nat → Nat) (sh : Nat → Option zw_Sh) (u g0 : zm_T) (hM : zm_S sh) : zw_Met l Y N0 yX10_copyBook cX10_copyBook 6 (some .int) 0 0 0 0 ad sh (zm_mix u g0) [.ref (ad 0), .int 6, .int 0] (zp_G ad sh (fun v g' => ∃ r : Int32, v = some (.int r) ∧ r = zs_cnt u 6 6 ∧ g' = zm_mix (zs_cp u 6 0) g0)) := by
  refine zw_meth (by decide) (Nat.le_of_ble_eq_true rfl) ?_
  intro p e s m below meth c ls X hnm hl hW
  have hl : lv_has ls 6 [(0, .ref (ad 0)), (1, .int 6), (2, .int 0)] := hl
  refine lv_iconst (v := 0) X.1 X.2.1 dX10_copyBook_0 (by decide) ?_
  refine lv_istore_n (lv' := [(3, .int 0), (0, .ref (ad 0)), (1, .int 6), (2, .int 0)]) X.1 X.2.1 dX10_copyBook_1 rfl hl (by decide) rfl (fun ls hl => ?_)
  refine lv_iconst (v := 0) X.1 X.2.1 dX10_copyBook_2 (by decide) ?_
  refine lv_istore (lv' := [(4, .int 0), (3, .int 0), (0, .ref (ad 0)), (1, .int 6), (2, .int 0)]) X.1 X.2.1 dX10_copyBook_3 hl (by decide) rfl (fun ls hl => ?_)
  exact lp_copyBook_c l Y N0 ad sh u g0 hM X hnm 7 0 u _ _ _ (by omega) (by omega) (zs_cpk0 u 6 0).symm hW (lv_sub hl [0, 1, 2, 3, 4] rfl)

set_option maxHeartbeats 4000000 in
set_option maxRecDepth 100000 in
theorem c_X10_save (l : Launch) (Y : zw_Y) (N0 : Nat) (ad : Nat → Nat) (sh : Nat → Option zw_Sh) (u g0 : zm_T) (hM : zm_S sh) (hI : zm_I u) : zw_Met l Y N0 yX10_save cX10_save 1 (some .int) 1 25 0 0 ad sh (zm_mix u g0) [.ref (ad 0)] (zp_S ad sh g0 (sp_save u)) := by
  refine zw_meth (by decide) (Nat.le_of_ble_eq_true rfl) ?_
  intro p e s m below meth c ls X hnm hl hW
  have hl : lv_has ls 1 [(0, .ref (ad 0))] := hl
  refine lv_aload_n X.1 X.2.1 dX10_save_0 rfl (lv_at hl 0 rfl) ?_
  refine lv_iconst (v := 0) X.1 X.2.1 dX10_save_1 (by decide) ?_
  refine lv_bipush (v := 6) X.1 X.2.1 dX10_save_2 (by decide) ?_
  refine zr_callV (As := [.int 0, .int 6]) (rest := []) X hW hl.1 md_X10_copyBook ms_X10_98 dX10_save_4 (zm_s0 hM) rfl rfl rfl rfl (Nat.le_of_ble_eq_true rfl) ⟨Nat.le_of_ble_eq_true rfl, Nat.le_of_ble_eq_true rfl⟩ ⟨Nat.le_of_ble_eq_true rfl, Nat.le_of_ble_eq_true rfl⟩ (c_X10_copyBook_s l Y N0 ad sh u g0 hM) (fun v9 ad9 sh9 g9 H locs hp hW => ?_)
  obtain ⟨rfl, rfl, _, rfl, rfl, rfl⟩ := hp
  have e9 : sp_save u = (zs_cnt u 0 6, (zs_cp u 0 6)) := (by unfold sp_save; (repeat (first | refine (if_pos (by omega)).trans ?_ | refine (if_neg (by omega)).trans ?_)); rfl)
  exact zr_iret X hW dX10_save_7 (Nat.le_refl _) (Nat.le_refl _) ⟨rfl, rfl, by rw [e9], by rw [e9]⟩

set_option maxHeartbeats 4000000 in
set_option maxRecDepth 100000 in
theorem c_X10_crash (l : Launch) (Y : zw_Y) (N0 : Nat) (ad : Nat → Nat) (sh : Nat → Option zw_Sh) (u g0 : zm_T) (hM : zm_S sh) (hI : zm_I u) : zw_Met l Y N0 yX10_crash cX10_crash 1 (some .int) 1 25 0 0 ad sh (zm_mix u g0) [.ref (ad 0)] (zp_S ad sh g0 (sp_crash u)) := by
  refine zw_meth (by decide) (Nat.le_of_ble_eq_true rfl) ?_
  intro p e s m below meth c ls X hnm hl hW
  have hl : lv_has ls 1 [(0, .ref (ad 0))] := hl
  refine lv_aload_n X.1 X.2.1 dX10_crash_0 rfl (lv_at hl 0 rfl) ?_
  refine lv_bipush (v := 6) X.1 X.2.1 dX10_crash_1 (by decide) ?_
  refine lv_iconst (v := 0) X.1 X.2.1 dX10_crash_3 (by decide) ?_
  refine zr_callV (As := [.int 6, .int 0]) (rest := []) X hW hl.1 md_X10_copyBook ms_X10_98 dX10_crash_4 (zm_s0 hM) rfl rfl rfl rfl (Nat.le_of_ble_eq_true rfl) ⟨Nat.le_of_ble_eq_true rfl, Nat.le_of_ble_eq_true rfl⟩ ⟨Nat.le_of_ble_eq_true rfl, Nat.le_of_ble_eq_true rfl⟩ (c_X10_copyBook_c l Y N0 ad sh u g0 hM) (fun v9 ad9 sh9 g9 H locs hp hW => ?_)
  obtain ⟨rfl, rfl, _, rfl, rfl, rfl⟩ := hp
  have e9 : sp_crash u = (zs_cnt u 6 6, (zs_cp u 6 0)) := (by unfold sp_crash; (repeat (first | refine (if_pos (by omega)).trans ?_ | refine (if_neg (by omega)).trans ?_)); rfl)
  exact zr_iret X hW dX10_crash_7 (Nat.le_refl _) (Nat.le_refl _) ⟨rfl, rfl, by rw [e9], by rw [e9]⟩
