theorem zc_Sup {sh : Nat → Option zw_Sh} {r : Nat} {x : Option zw_Sh} (hr : r ∉ zc_shl.map Prod.fst) (h : zc_S sh) : zc_S (va_up sh r x) := by
  intro q hq
  rw [va_up_ne _ _ (fun e => hr (by rw [← e]; exact List.mem_map.mpr ⟨q, hq, rfl⟩))]
  exact h q hq
theorem zm_wsame {g : zm_T} {r k : Nat} {x : Int32} (h : g r k = x) : zm_w g r k x = g := by
  funext a b
  by_cases ha : a = r ∧ b = k
  · obtain ⟨rfl, rfl⟩ := ha
    rw [zm_ws, h]
  · rw [zm_wn _ _ (by by_cases h1 : a = r; exact Or.inr (fun h2 => ha ⟨h1, h2⟩); exact Or.inl h1)]

set_option maxHeartbeats 8000000 in
set_option maxRecDepth 100000 in
theorem lp_X2_dropClaimsBefore {p : Program} {e : Env} {s : State} {m : MethodId} {below : List Frame} {meth : Method} {c : Code} (l : Launch) (Y : zw_Y) (N0 : Nat) (ad : Nat → Nat) (sh : Nat → Option zw_Sh) (g u : zm_T) (hR : zc_R sh g u) (hI : zm_I u) (X : zw_X p m meth c cX2_dropClaimsBefore 4 none s ([.ref (ad 106), .int (u 1 1 - u 0 0)] : List Value).toArray yX2_dropClaimsBefore.cls Y) (hnm : meth.name = yX2_dropClaimsBefore.name) :
    ∀ (n : Nat) (k : Nat) (cfk : Nat → Option Nat) (sh1 : Nat → Option zw_Sh) (H : Heap) (locs : List Loc) (ls : Array Slot), k ≤ zn (u 0 28) → zn (u 0 28) - k < n → sh1 = va_up sh 120 (some (.inr (2, 12, some cfk))) → (∀ j, j < (zs_kp u k).1 → cfk j = some (200 + 2 * zn ((zs_kp u k).2 j))) → (∀ j, k ≤ j → j < zn (u 0 28) → cfk j = some (200 + 2 * zn (u 29 j))) → zw_St Y N0 ad sh1 g s H locs → lv_has ls 4 [(3, .int (nI k)), (2, .int (nI (zs_kp u k).1)), (0, .ref (ad 106)), (1, .int (u 1 1 - u 0 0))] → W p l e ({ frames := 0, cells := 0, slots := 0, locals := 0 } : Room) s m ([.ref (ad 106), .int (u 1 1 - u 0 0)] : List Value).toArray below meth c H locs 0 0 (MQ below (zw_Q Y N0 (fun v ad' sh' g' => v = none ∧ ad = ad' ∧ (∃ cf' : Nat → Option Nat, sh' = va_up sh 120 (some (.inr (2, 12, some cf'))) ∧ ∀ j, j < (zs_kp u (zn (u 0 28))).1 → cf' j = some (200 + 2 * zn ((zs_kp u (zn (u 0 28))).2 j))) ∧ g' = zm_w g 106 2 (nI (zs_kp u (zn (u 0 28))).1))) ([.ref (ad 106), .int (u 1 1 - u 0 0)] : List Value).toArray s 0 0 (fun q => N0 ≤ q)) (F0 m 4 ls []) := by
  have hN0 := hR.2.1
  have hca := zI_ca hI
  have hse := zI_se hI
  have hz28 := zi_n (u 0 28)
  intro n
  induction n with
  | zero => intro k cfk sh1 H locs ls h1 h2; omega
  | succ n ih =>
    intro k cfk sh1 H locs ls hk0 hn hsh1 hA hB hW hl
    have hle := zs_kple u k
    have hS : zc_S sh1 := by rw [hsh1]; exact zc_Sup (by decide) hR.1
    refine lv_iload_n X.1 X.2.1 dX2_dropClaimsBefore_4 rfl (lv_at hl 0 rfl) ?_
    refine lv_aload_n X.1 X.2.1 dX2_dropClaimsBefore_5 rfl (lv_at hl 2 rfl) ?_
    refine zr_get (r := 106) (v := .int (u 0 28)) X hW fs_X2_21_2 dX2_dropClaimsBefore_6 (zc_s106 hS) rfl rfl (congrArg Value.int (hN0 _ _ _ _ rfl)) ?_
    refine zr_icmp_ge (a := ((k : Nat) : Int)) (b := (u 0 28).toInt) (tgt := 46) X dX2_dropClaimsBefore_9 (by decide) (nI_toInt (by omega)) rfl (fun c_1 => ?_) (fun c_1 => ?_)
    · refine lv_aload_n X.1 X.2.1 dX2_dropClaimsBefore_46 rfl (lv_at hl 2 rfl) ?_
      refine lv_iload_n X.1 X.2.1 dX2_dropClaimsBefore_47 rfl (lv_at hl 1 rfl) ?_
      refine zr_puti (r := 106) X hW fs_X2_21_2 dX2_dropClaimsBefore_48 (zc_s106 hS) rfl rfl rfl rfl (fun H locs hW => ?_)
      obtain ⟨g_2, hg_2⟩ : ∃ z : zm_T, z = zm_w g 106 2 (nI ((zs_kp u k).1)) := ⟨_, rfl⟩
      have hW : zw_St Y N0 ad sh1 g_2 s H locs := by rw [hg_2]; exact hW
      have hz : k = zn (u 0 28) := by omega
      exact zr_vret X hW dX2_dropClaimsBefore_51 (Nat.le_refl _) (Nat.le_refl _) ⟨rfl, rfl, ⟨cfk, hsh1, by rw [← hz]; exact hA⟩, by rw [hg_2, hz]⟩
    · have hcq := zI_cq hI k (by omega)
      have hq1 := zr_cl hR (a := zn (u 29 k)) (by simp only [zi_n]; omega) hcq.2
      refine lv_aload_n X.1 X.2.1 dX2_dropClaimsBefore_12 rfl (lv_at hl 2 rfl) ?_
      refine zr_get (r := 106) (v := .ref (ad 120)) X hW fs_X2_17_2 dX2_dropClaimsBefore_13 (zc_s106 hS) rfl rfl rfl ?_
      refine lv_iload_n X.1 X.2.1 dX2_dropClaimsBefore_16 rfl (lv_at hl 0 rfl) ?_
      have hx_3 := nI_clamp (n := k) (by omega)
      refine zr_aald (r := 120) (v := .ref (ad (200 + 2 * (zn (u 29 k))))) X hW dX2_dropClaimsBefore_17 (show sh1 120 = some (.inr (2, 12, some cfk)) from (by rw [hsh1]; exact va_up_self _ _ _)) rfl rfl rfl (zi_vp (by rw [nI_toInt (by omega)]; omega)) (by rw [hx_3, hB k (Nat.le_refl k) (by omega)]; rfl) ?_
      refine zr_get (r := (200 + 2 * (zn (u 29 k)))) (v := .int (u 13 ((zn (u 29 k))))) X hW fs_X2_28_1 dX2_dropClaimsBefore_18 (show sh1 (200 + 2 * (zn (u 29 k))) = some (.inl (1, [none, none, none, none, some (some (201 + 2 * (zn (u 29 k))))])) from (by rw [hsh1]; exact (va_up_ne _ _ (by omega)).trans hq1.1)) rfl rfl (congrArg Value.int hq1.2.2.2.2.1) ?_
      refine lv_iload_n X.1 X.2.1 dX2_dropClaimsBefore_21 rfl (lv_at hl 3 rfl) ?_
      refine zr_icmp_lt (a := (u 13 ((zn (u 29 k)))).toInt) (b := (u 1 1 - u 0 0).toInt) (tgt := 40) X dX2_dropClaimsBefore_22 (by decide) rfl rfl (fun c_4 => ?_) (fun c_4 => ?_)
      · refine lv_iinc (v := nI (k + 1)) (lv' := [(3, .int (nI (k + 1))), (2, .int (nI ((zs_kp u k).1))), (0, .ref (ad 106)), (1, .int (u 1 1 - u 0 0))]) X.1 X.2.1 dX2_dropClaimsBefore_40 hl (k := 0) rfl (nI_add k 1) (by decide) rfl (fun ls hl => ?_)
        refine lv_goto (tgt := 4) X.1 X.2.1 dX2_dropClaimsBefore_43 (by decide) ?_
        have ek := zs_kpn (u := u) (k := k) (by omega)
        refine ih (k + 1) cfk sh1 _ _ _ (by omega) (by omega) hsh1 ?_ ?_ hW ?_
        · rw [ek]; exact hA
        · intro j hj1 hj2; exact hB j (by omega) hj2
        · rw [ek]
          exact lv_sub hl [0, 1, 2, 3] rfl
      · refine lv_aload_n X.1 X.2.1 dX2_dropClaimsBefore_25 rfl (lv_at hl 2 rfl) ?_
        refine zr_get (r := 106) (v := .ref (ad 120)) X hW fs_X2_17_2 dX2_dropClaimsBefore_26 (zc_s106 hS) rfl rfl rfl ?_
        refine lv_iload_n X.1 X.2.1 dX2_dropClaimsBefore_29 rfl (lv_at hl 1 rfl) ?_
        refine lv_aload_n X.1 X.2.1 dX2_dropClaimsBefore_30 rfl (lv_at hl 2 rfl) ?_
        refine zr_get (r := 106) (v := .ref (ad 120)) X hW fs_X2_17_2 dX2_dropClaimsBefore_31 (zc_s106 hS) rfl rfl rfl ?_
        refine lv_iload_n X.1 X.2.1 dX2_dropClaimsBefore_34 rfl (lv_at hl 0 rfl) ?_
        have hx_5 := nI_clamp (n := k) (by omega)
        refine zr_aald (r := 120) (v := .ref (ad (200 + 2 * (zn (u 29 k))))) X hW dX2_dropClaimsBefore_35 (show sh1 120 = some (.inr (2, 12, some cfk)) from (by rw [hsh1]; exact va_up_self _ _ _)) rfl rfl rfl (zi_vp (by rw [nI_toInt (by omega)]; omega)) (by rw [hx_5, hB k (Nat.le_refl k) (by omega)]; rfl) ?_
        have hx_6 := nI_clamp (n := (zs_kp u k).1) (by omega)
        refine zr_aast (r := 120) (r2 := (200 + 2 * (zn (u 29 k)))) X hW dX2_dropClaimsBefore_36 (show sh1 120 = some (.inr (2, 12, some cfk)) from (by rw [hsh1]; exact va_up_self _ _ _)) rfl rfl (show sh1 (200 + 2 * (zn (u 29 k))) = some (.inl (1, [none, none, none, none, some (some (201 + 2 * (zn (u 29 k))))])) from (by rw [hsh1]; exact (va_up_ne _ _ (by omega)).trans hq1.1)) rfl rfl (Or.inl rfl) (zi_vp (by rw [nI_toInt (by omega)]; omega)) (fun H locs hW => ?_)
        rw [hx_6] at hW
        obtain ⟨sh2, hsh2⟩ : ∃ z : Nat → Option zw_Sh, z = va_up sh1 120 (some (.inr (2, 12, some (va_up cfk ((zs_kp u k).1) (some (200 + 2 * (zn (u 29 k)))))))) := ⟨_, rfl⟩
        rw [← hsh2] at hW
        refine lv_iinc (v := nI (((zs_kp u k).1) + 1)) (lv' := [(2, .int (nI (((zs_kp u k).1) + 1))), (3, .int (nI (k))), (0, .ref (ad 106)), (1, .int (u 1 1 - u 0 0))]) X.1 X.2.1 dX2_dropClaimsBefore_37 hl (k := 1) rfl (nI_add ((zs_kp u k).1) 1) (by decide) rfl (fun ls hl => ?_)
        refine lv_iinc (v := nI (k + 1)) (lv' := [(3, .int (nI (k + 1))), (2, .int (nI (((zs_kp u k).1) + 1))), (0, .ref (ad 106)), (1, .int (u 1 1 - u 0 0))]) X.1 X.2.1 dX2_dropClaimsBefore_40 hl (k := 1) rfl (nI_add k 1) (by decide) rfl (fun ls hl => ?_)
        refine lv_goto (tgt := 4) X.1 X.2.1 dX2_dropClaimsBefore_43 (by decide) ?_
        have ek := zs_kps (u := u) (k := k) (by omega)
        refine ih (k + 1) (va_up cfk (zs_kp u k).1 (some (200 + 2 * (zn (u 29 k))))) sh2 _ _ _ (by omega) (by omega) (by rw [hsh2, hsh1, bx_uu]) ?_ ?_ hW ?_
        · intro j hj
          rw [ek] at hj ⊢
          have hj : j < (zs_kp u k).1 + 1 := hj
          show va_up cfk (zs_kp u k).1 _ j = some (200 + 2 * zn (upd (zs_kp u k).2 (zs_kp u k).1 (u 29 k) j))
          by_cases hjk : j = (zs_kp u k).1
          · subst hjk; rw [va_up_self]; simp [upd]
          · rw [va_up_ne _ _ hjk, hA j (by omega)]; simp [upd, hjk]
        · intro j hj1 hj2
          rw [va_up_ne _ _ (by omega)]
          exact hB j (by omega) hj2
        · rw [ek]
          exact lv_sub hl [0, 1, 2, 3] rfl

set_option maxHeartbeats 4000000 in
set_option maxRecDepth 100000 in
theorem c_X2_dropClaimsBefore (l : Launch) (Y : zw_Y) (N0 : Nat) (ad : Nat → Nat) (sh : Nat → Option zw_Sh) (g u : zm_T) (hR : zc_R sh g u) (hI : zm_I u) : zw_Met l Y N0 yX2_dropClaimsBefore cX2_dropClaimsBefore 4 none 0 0 0 0 ad sh g [.ref (ad 106), .int (u 1 1 - u 0 0)] (fun v ad' sh' g' => v = none ∧ ad = ad' ∧ (∃ cf' : Nat → Option Nat, sh' = va_up sh 120 (some (.inr (2, 12, some cf'))) ∧ ∀ j, j < (zs_kp u (zn (u 0 28))).1 → cf' j = some (200 + 2 * zn ((zs_kp u (zn (u 0 28))).2 j))) ∧ g' = zm_w g 106 2 (nI (zs_kp u (zn (u 0 28))).1)) := by
  refine zw_meth (by decide) (Nat.le_of_ble_eq_true rfl) ?_
  intro p e s m below meth c ls X hnm hl hW
  have hl : lv_has ls 4 [(0, .ref (ad 106)), (1, .int (u 1 1 - u 0 0))] := hl
  refine lv_iconst (v := 0) X.1 X.2.1 dX2_dropClaimsBefore_0 (by decide) ?_
  refine lv_istore_n (lv' := [(2, .int 0), (0, .ref (ad 106)), (1, .int (u 1 1 - u 0 0))]) X.1 X.2.1 dX2_dropClaimsBefore_1 rfl hl (by decide) rfl (fun ls hl => ?_)
  refine lv_iconst (v := 0) X.1 X.2.1 dX2_dropClaimsBefore_2 (by decide) ?_
  refine lv_istore_n (lv' := [(3, .int 0), (2, .int 0), (0, .ref (ad 106)), (1, .int (u 1 1 - u 0 0))]) X.1 X.2.1 dX2_dropClaimsBefore_3 rfl hl (by decide) rfl (fun ls hl => ?_)
  obtain ⟨cf, hcf, hcf2⟩ := hR.2.2.2.2.2.2.2
  exact lp_X2_dropClaimsBefore l Y N0 ad sh g u hR hI X hnm (zn (u 0 28) + 1) 0 cf sh _ _ _ (by omega) (by omega) (zw_up_same hcf).symm (fun j hj => absurd hj (Nat.not_lt_zero j)) (fun j _ hj => hcf2 j hj) hW (lv_sub hl [0, 1, 2, 3] rfl)

set_option maxHeartbeats 4000000 in
set_option maxRecDepth 100000 in
theorem c_X2_carryOut (l : Launch) (Y : zw_Y) (N0 : Nat) (ad : Nat → Nat) (sh : Nat → Option zw_Sh) (g u : zm_T) (hS : zc_S sh) (hN : zc_N g u) (cf : Nat → Option Nat) (hcf : sh 120 = some (.inr (2, 12, some cf))) (cl : Nat) (hq : ((sh (200 + 2 * cl) = some (.inl (1, [none, none, none, none, some (some (201 + 2 * cl))]))) ∧ sh (201 + 2 * cl) = some (.inl (3, [none, none, none])) ∧ g (200 + 2 * cl) 0 = u 10 cl ∧ g (200 + 2 * cl) 1 = u 11 cl ∧ g (200 + 2 * cl) 2 = u 13 cl ∧ g (200 + 2 * cl) 3 = u 14 cl ∧ g (201 + 2 * cl) 0 = u 16 cl ∧ g (201 + 2 * cl) 1 = u 17 cl ∧ g (201 + 2 * cl) 2 = u 18 cl)) (hf : 0 ≤ (u 17 cl).toInt ∧ (u 17 cl).toInt ≤ 2) (h28 : 0 ≤ (u 0 28).toInt ∧ (u 0 28).toInt < 12) : zw_Met l Y N0 yX2_carryOut cX2_carryOut 3 none 0 0 0 0 ad sh g [.ref (ad 106), .ref (ad (200 + 2 * cl))] (fun v ad' sh' g' => v = none ∧ ad = ad' ∧ sh' = va_up sh 120 (some (.inr (2, 12, some (va_up cf (zn (u 0 28)) (some (200 + 2 * cl)))))) ∧ g' = zm_w (zm_w (zm_w g 106 2 (u 0 28 + 1)) 119 (zn (u 17 cl)) (zs_new u cl)) 106 3 (zs_new u cl)) := by
  refine zw_meth (by decide) (Nat.le_of_ble_eq_true rfl) ?_
  intro p e s m below meth c ls X hnm hl hW
  have hl : lv_has ls 3 [(0, .ref (ad 106)), (1, .ref (ad (200 + 2 * cl)))] := hl
  have hN0 := hN
  refine lv_aload_n X.1 X.2.1 dX2_carryOut_0 rfl (lv_at hl 0 rfl) ?_
  refine zr_get (r := 106) (v := .ref (ad 120)) X hW fs_X2_17_2 dX2_carryOut_1 (zc_s106 hS) rfl rfl rfl ?_
  refine lv_aload_n X.1 X.2.1 dX2_carryOut_4 rfl (lv_at hl 0 rfl) ?_
  refine zr_get (r := 106) (v := .int (u 0 28)) X hW fs_X2_21_2 dX2_carryOut_5 (zc_s106 hS) rfl rfl (congrArg Value.int (hN0 _ _ _ _ rfl)) ?_
  refine lv_aload_n X.1 X.2.1 dX2_carryOut_8 rfl (lv_at hl 1 rfl) ?_
  refine zr_aast (r := 120) (r2 := (200 + 2 * cl)) X hW dX2_carryOut_9 hcf rfl rfl hq.1 rfl rfl (Or.inl rfl) (zi_vp (by omega)) (fun H locs hW => ?_)
  obtain ⟨sh1, hsh1⟩ : ∃ z : Nat → Option zw_Sh, z = va_up sh 120 (some (.inr (2, 12, some (va_up cf (zn (u 0 28)) (some (200 + 2 * cl)))))) := ⟨_, rfl⟩
  have hW : zw_St Y N0 ad sh1 g s H locs := by rw [hsh1]; exact hW
  have hS : zc_S sh1 := by rw [hsh1]; exact zc_Sup (by decide) hS
  refine lv_aload_n X.1 X.2.1 dX2_carryOut_10 rfl (lv_at hl 0 rfl) ?_
  refine lv_dup X.1 X.2.1 dX2_carryOut_11 rfl ?_
  refine zr_get (r := 106) (v := .int (u 0 28)) X hW fs_X2_21_2 dX2_carryOut_12 (zc_s106 hS) rfl rfl (congrArg Value.int (hN0 _ _ _ _ rfl)) ?_
  refine lv_iconst (v := 1) X.1 X.2.1 dX2_carryOut_15 (by decide) ?_
  refine lv_iadd X.1 X.2.1 dX2_carryOut_16 ?_
  refine zr_puti (r := 106) X hW fs_X2_21_2 dX2_carryOut_17 (zc_s106 hS) rfl rfl rfl rfl (fun H locs hW => ?_)
  obtain ⟨g_1, hg_1⟩ : ∃ z : zm_T, z = zm_w g 106 2 ((u 0 28) + 1) := ⟨_, rfl⟩
  have hW : zw_St Y N0 ad sh1 g_1 s H locs := by rw [hg_1]; exact hW
  refine lv_aload_n X.1 X.2.1 dX2_carryOut_20 rfl (lv_at hl 1 rfl) ?_
  refine zr_get (r := (200 + 2 * cl)) (v := .ref (ad ((201 + 2 * cl)))) X hW fs_X2_35_1 dX2_carryOut_21 (show sh1 (200 + 2 * cl) = some (.inl (1, [none, none, none, none, some (some (201 + 2 * cl))])) from (by rw [hsh1]; exact (va_up_ne _ _ (by omega)).trans hq.1)) rfl rfl rfl ?_
  refine lv_astore_n (lv' := [(2, .ref (ad ((201 + 2 * cl)))), (0, .ref (ad 106)), (1, .ref (ad (200 + 2 * cl)))]) X.1 X.2.1 dX2_carryOut_24 rfl hl (by decide) rfl (fun ls hl => ?_)
  refine lv_aload_n X.1 X.2.1 dX2_carryOut_25 rfl (lv_at hl 0 rfl) ?_
  refine zr_get (r := (201 + 2 * cl)) (v := .int (u 16 cl)) X hW fs_X2_39_3 dX2_carryOut_26 (show sh1 (201 + 2 * cl) = some (.inl (3, [none, none, none])) from (by rw [hsh1]; exact (va_up_ne _ _ (by omega)).trans hq.2.1)) rfl rfl (congrArg Value.int ((show g_1 (201 + 2 * cl) 0 = g (201 + 2 * cl) 0 from (by rw [hg_1]; exact zm_wn _ _ (Or.inl (by omega)))).trans hq.2.2.2.2.2.2.1)) ?_
  refine lv_iconst (v := 2) X.1 X.2.1 dX2_carryOut_29 (by decide) ?_
  refine zr_icmp_ne (a := (u 16 cl).toInt) (b := 2) (tgt := 49) X dX2_carryOut_30 (by decide) rfl (by decide) (fun c_2 => ?_) (fun c_2 => ?_)
  · refine lv_aload_n X.1 X.2.1 dX2_carryOut_49 rfl (lv_at hl 0 rfl) ?_
    refine zr_get (r := (201 + 2 * cl)) (v := .int (u 16 cl)) X hW fs_X2_39_3 dX2_carryOut_50 (show sh1 (201 + 2 * cl) = some (.inl (3, [none, none, none])) from (by rw [hsh1]; exact (va_up_ne _ _ (by omega)).trans hq.2.1)) rfl rfl (congrArg Value.int ((show g_1 (201 + 2 * cl) 0 = g (201 + 2 * cl) 0 from (by rw [hg_1]; exact zm_wn _ _ (Or.inl (by omega)))).trans hq.2.2.2.2.2.2.1)) ?_
    refine lv_iconst (v := 3) X.1 X.2.1 dX2_carryOut_53 (by decide) ?_
    refine zr_icmp_ne (a := (u 16 cl).toInt) (b := 3) (tgt := 73) X dX2_carryOut_54 (by decide) rfl (by decide) (fun c_3 => ?_) (fun c_3 => ?_)
    · refine lv_aload_n X.1 X.2.1 dX2_carryOut_73 rfl (lv_at hl 1 rfl) ?_
      refine lv_aload_n X.1 X.2.1 dX2_carryOut_74 rfl (lv_at hl 1 rfl) ?_
      refine zr_get (r := 106) (v := .ref (ad 119)) X hW fs_X2_9_2 dX2_carryOut_75 (zc_s106 hS) rfl rfl rfl ?_
      refine lv_aload_n X.1 X.2.1 dX2_carryOut_78 rfl (lv_at hl 0 rfl) ?_
      refine zr_get (r := (201 + 2 * cl)) (v := .int (u 17 cl)) X hW fs_X2_44_3 dX2_carryOut_79 (show sh1 (201 + 2 * cl) = some (.inl (3, [none, none, none])) from (by rw [hsh1]; exact (va_up_ne _ _ (by omega)).trans hq.2.1)) rfl rfl (congrArg Value.int ((show g_1 (201 + 2 * cl) 1 = g (201 + 2 * cl) 1 from (by rw [hg_1]; exact zm_wn _ _ (Or.inl (by omega)))).trans hq.2.2.2.2.2.2.2.1)) ?_
      refine zr_iald (r := 119) (v := u 26 (zn (u 17 cl))) X hW dX2_carryOut_82 (zc_s119 hS) rfl rfl (zi_vp (by omega)) ((show g_1 119 (zn (u 17 cl)) = g 119 (zn (u 17 cl)) from (by rw [hg_1]; rfl)).trans (hN0 _ _ _ _ (zc_l119 (zi_nl (by omega) (by decide))))) ?_
      refine zr_puti (r := 106) X hW fs_X2_25_2 dX2_carryOut_83 (zc_s106 hS) rfl rfl rfl rfl (fun H locs hW => ?_)
      obtain ⟨g_4, hg_4⟩ : ∃ z : zm_T, z = zm_w g_1 106 3 (u 26 (zn (u 17 cl))) := ⟨_, rfl⟩
      have hW : zw_St Y N0 ad sh1 g_4 s H locs := by rw [hg_4]; exact hW
      have hnew : zs_new u cl = u 26 (zn (u 17 cl)) := (if_neg (by omega)).trans (if_neg (by omega))
      exact zr_vret X hW dX2_carryOut_86 (Nat.le_refl _) (Nat.le_refl _) ⟨rfl, rfl, hsh1, by rw [hg_4, hg_1, hnew, zm_wsame (g := zm_w g 106 2 (u 0 28 + 1)) (r := 119) (show zm_w g 106 2 (u 0 28 + 1) 119 (zn (u 17 cl)) = u 26 (zn (u 17 cl)) from hN0 _ _ _ _ (zc_l119 (by simp only [zi_n]; omega)))]⟩
    · refine lv_aload_n X.1 X.2.1 dX2_carryOut_57 rfl (lv_at hl 1 rfl) ?_
      refine zr_get (r := 106) (v := .ref (ad 119)) X hW fs_X2_9_2 dX2_carryOut_58 (zc_s106 hS) rfl rfl rfl ?_
      refine lv_aload_n X.1 X.2.1 dX2_carryOut_61 rfl (lv_at hl 0 rfl) ?_
      refine zr_get (r := (201 + 2 * cl)) (v := .int (u 17 cl)) X hW fs_X2_44_3 dX2_carryOut_62 (show sh1 (201 + 2 * cl) = some (.inl (3, [none, none, none])) from (by rw [hsh1]; exact (va_up_ne _ _ (by omega)).trans hq.2.1)) rfl rfl (congrArg Value.int ((show g_1 (201 + 2 * cl) 1 = g (201 + 2 * cl) 1 from (by rw [hg_1]; exact zm_wn _ _ (Or.inl (by omega)))).trans hq.2.2.2.2.2.2.2.1)) ?_
      refine lv_dup2_11 X.1 X.2.1 dX2_carryOut_65 rfl rfl ?_
      refine zr_iald (r := 119) (v := u 26 (zn (u 17 cl))) X hW dX2_carryOut_66 (zc_s119 hS) rfl rfl (zi_vp (by omega)) ((show g_1 119 (zn (u 17 cl)) = g 119 (zn (u 17 cl)) from (by rw [hg_1]; rfl)).trans (hN0 _ _ _ _ (zc_l119 (zi_nl (by omega) (by decide))))) ?_
      refine lv_aload_n X.1 X.2.1 dX2_carryOut_67 rfl (lv_at hl 0 rfl) ?_
      refine zr_get (r := (201 + 2 * cl)) (v := .int (u 18 cl)) X hW fs_X2_47_3 dX2_carryOut_68 (show sh1 (201 + 2 * cl) = some (.inl (3, [none, none, none])) from (by rw [hsh1]; exact (va_up_ne _ _ (by omega)).trans hq.2.1)) rfl rfl (congrArg Value.int ((show g_1 (201 + 2 * cl) 2 = g (201 + 2 * cl) 2 from (by rw [hg_1]; exact zm_wn _ _ (Or.inl (by omega)))).trans hq.2.2.2.2.2.2.2.2)) ?_
      refine lv_iadd X.1 X.2.1 dX2_carryOut_71 ?_
      refine zr_iast (r := 119) X hW dX2_carryOut_72 (zc_s119 hS) rfl rfl (zi_vp (by omega)) (fun H locs hW => ?_)
      obtain ⟨g_5, hg_5⟩ : ∃ z : zm_T, z = zm_w g_1 119 (zn (u 17 cl)) ((u 26 (zn (u 17 cl))) + (u 18 cl)) := ⟨_, rfl⟩
      have hW : zw_St Y N0 ad sh1 g_5 s H locs := by rw [hg_5]; exact hW
      refine lv_aload_n X.1 X.2.1 dX2_carryOut_73 rfl (lv_at hl 1 rfl) ?_
      refine lv_aload_n X.1 X.2.1 dX2_carryOut_74 rfl (lv_at hl 1 rfl) ?_
      refine zr_get (r := 106) (v := .ref (ad 119)) X hW fs_X2_9_2 dX2_carryOut_75 (zc_s106 hS) rfl rfl rfl ?_
      refine lv_aload_n X.1 X.2.1 dX2_carryOut_78 rfl (lv_at hl 0 rfl) ?_
      refine zr_get (r := (201 + 2 * cl)) (v := .int (u 17 cl)) X hW fs_X2_44_3 dX2_carryOut_79 (show sh1 (201 + 2 * cl) = some (.inl (3, [none, none, none])) from (by rw [hsh1]; exact (va_up_ne _ _ (by omega)).trans hq.2.1)) rfl rfl (congrArg Value.int ((show g_5 (201 + 2 * cl) 1 = g_1 (201 + 2 * cl) 1 from (by rw [hg_5]; exact zm_wn _ _ (Or.inl (by omega)))).trans ((show g_1 (201 + 2 * cl) 1 = g (201 + 2 * cl) 1 from (by rw [hg_1]; exact zm_wn _ _ (Or.inl (by omega)))).trans hq.2.2.2.2.2.2.2.1))) ?_
      refine zr_iald (r := 119) (v := (u 26 (zn (u 17 cl))) + (u 18 cl)) X hW dX2_carryOut_82 (zc_s119 hS) rfl rfl (zi_vp (by omega)) (show g_5 119 (zn (u 17 cl)) = (u 26 (zn (u 17 cl))) + (u 18 cl) from (by rw [hg_5]; exact zm_ws _ _ _ _)) ?_
      refine zr_puti (r := 106) X hW fs_X2_25_2 dX2_carryOut_83 (zc_s106 hS) rfl rfl rfl rfl (fun H locs hW => ?_)
      obtain ⟨g_6, hg_6⟩ : ∃ z : zm_T, z = zm_w g_5 106 3 ((u 26 (zn (u 17 cl))) + (u 18 cl)) := ⟨_, rfl⟩
      have hW : zw_St Y N0 ad sh1 g_6 s H locs := by rw [hg_6]; exact hW
      have hnew : zs_new u cl = (u 26 (zn (u 17 cl))) + (u 18 cl) := by first | exact if_pos (by omega) | exact (if_neg (by omega)).trans (if_pos (by omega))
      exact zr_vret X hW dX2_carryOut_86 (Nat.le_refl _) (Nat.le_refl _) ⟨rfl, rfl, hsh1, by rw [hg_6, hg_5, hg_1, hnew]⟩
  · refine lv_aload_n X.1 X.2.1 dX2_carryOut_33 rfl (lv_at hl 1 rfl) ?_
    refine zr_get (r := 106) (v := .ref (ad 119)) X hW fs_X2_9_2 dX2_carryOut_34 (zc_s106 hS) rfl rfl rfl ?_
    refine lv_aload_n X.1 X.2.1 dX2_carryOut_37 rfl (lv_at hl 0 rfl) ?_
    refine zr_get (r := (201 + 2 * cl)) (v := .int (u 17 cl)) X hW fs_X2_44_3 dX2_carryOut_38 (show sh1 (201 + 2 * cl) = some (.inl (3, [none, none, none])) from (by rw [hsh1]; exact (va_up_ne _ _ (by omega)).trans hq.2.1)) rfl rfl (congrArg Value.int ((show g_1 (201 + 2 * cl) 1 = g (201 + 2 * cl) 1 from (by rw [hg_1]; exact zm_wn _ _ (Or.inl (by omega)))).trans hq.2.2.2.2.2.2.2.1)) ?_
    refine lv_aload_n X.1 X.2.1 dX2_carryOut_41 rfl (lv_at hl 0 rfl) ?_
    refine zr_get (r := (201 + 2 * cl)) (v := .int (u 18 cl)) X hW fs_X2_47_3 dX2_carryOut_42 (show sh1 (201 + 2 * cl) = some (.inl (3, [none, none, none])) from (by rw [hsh1]; exact (va_up_ne _ _ (by omega)).trans hq.2.1)) rfl rfl (congrArg Value.int ((show g_1 (201 + 2 * cl) 2 = g (201 + 2 * cl) 2 from (by rw [hg_1]; exact zm_wn _ _ (Or.inl (by omega)))).trans hq.2.2.2.2.2.2.2.2)) ?_
    refine zr_iast (r := 119) X hW dX2_carryOut_45 (zc_s119 hS) rfl rfl (zi_vp (by omega)) (fun H locs hW => ?_)
    obtain ⟨g_7, hg_7⟩ : ∃ z : zm_T, z = zm_w g_1 119 (zn (u 17 cl)) (u 18 cl) := ⟨_, rfl⟩
    have hW : zw_St Y N0 ad sh1 g_7 s H locs := by rw [hg_7]; exact hW
    refine lv_goto (tgt := 73) X.1 X.2.1 dX2_carryOut_46 (by decide) ?_
    refine lv_aload_n X.1 X.2.1 dX2_carryOut_73 rfl (lv_at hl 1 rfl) ?_
    refine lv_aload_n X.1 X.2.1 dX2_carryOut_74 rfl (lv_at hl 1 rfl) ?_
    refine zr_get (r := 106) (v := .ref (ad 119)) X hW fs_X2_9_2 dX2_carryOut_75 (zc_s106 hS) rfl rfl rfl ?_
    refine lv_aload_n X.1 X.2.1 dX2_carryOut_78 rfl (lv_at hl 0 rfl) ?_
    refine zr_get (r := (201 + 2 * cl)) (v := .int (u 17 cl)) X hW fs_X2_44_3 dX2_carryOut_79 (show sh1 (201 + 2 * cl) = some (.inl (3, [none, none, none])) from (by rw [hsh1]; exact (va_up_ne _ _ (by omega)).trans hq.2.1)) rfl rfl (congrArg Value.int ((show g_7 (201 + 2 * cl) 1 = g_1 (201 + 2 * cl) 1 from (by rw [hg_7]; exact zm_wn _ _ (Or.inl (by omega)))).trans ((show g_1 (201 + 2 * cl) 1 = g (201 + 2 * cl) 1 from (by rw [hg_1]; exact zm_wn _ _ (Or.inl (by omega)))).trans hq.2.2.2.2.2.2.2.1))) ?_
    refine zr_iald (r := 119) (v := u 18 cl) X hW dX2_carryOut_82 (zc_s119 hS) rfl rfl (zi_vp (by omega)) (show g_7 119 (zn (u 17 cl)) = u 18 cl from (by rw [hg_7]; exact zm_ws _ _ _ _)) ?_
    refine zr_puti (r := 106) X hW fs_X2_25_2 dX2_carryOut_83 (zc_s106 hS) rfl rfl rfl rfl (fun H locs hW => ?_)
    obtain ⟨g_8, hg_8⟩ : ∃ z : zm_T, z = zm_w g_7 106 3 (u 18 cl) := ⟨_, rfl⟩
    have hW : zw_St Y N0 ad sh1 g_8 s H locs := by rw [hg_8]; exact hW
    have hnew : zs_new u cl = u 18 cl := by first | exact if_pos (by omega) | exact (if_neg (by omega)).trans (if_pos (by omega))
    exact zr_vret X hW dX2_carryOut_86 (Nat.le_refl _) (Nat.le_refl _) ⟨rfl, rfl, hsh1, by rw [hg_8, hg_7, hg_1, hnew]⟩
