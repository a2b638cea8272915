theorem zc_drop {sh sh' : Nat → Option zw_Sh} {g g' u : zm_T} {cf' : Nat → Option Nat} (hR : zc_R sh g u) (hI : zm_I u) (hs : sh' = va_up sh 120 (some (.inr (2, 12, some cf')))) (hc : ∀ j, j < (zs_kp u (zn (u 0 28))).1 → cf' j = some (200 + 2 * zn ((zs_kp u (zn (u 0 28))).2 j))) (hg : g' = zm_w g 106 2 (nI (zs_kp u (zn (u 0 28))).1)) : zc_R sh' g' (zs_fo u) := by
  obtain ⟨h1, h2, h3, h4, h5, h6, h7, cf, h8, h9⟩ := hR
  have hca := zI_ca hI
  have hle := zs_kple u (zn (u 0 28))
  have hz := zi_n (u 0 28)
  have hne : ∀ r : Nat, r ≠ 120 → sh' r = sh r := fun r h => by rw [hs]; exact va_up_ne _ _ h
  have hgr : ∀ r : Nat, r ≠ 106 → g' r = g r := fun r h => by rw [hg]; exact zm_wr h
  have hN1 : zc_N g (va_up u 29 (zs_kp u (zn (u 0 28))).2) := fun r i m k hl => by
    rw [va_up_ne _ _ (by have := zc_lmr hl; omega)]
    exact h2 r i m k hl
  have hN : zc_N g' (zs_fo u) := by rw [hg]; exact zc_Nw hN1 (r := 106) (i := 2) rfl _
  have e28 : zn (zs_fo u 0 28) = (zs_kp u (zn (u 0 28))).1 := by
    show zn (zm_w _ 0 28 _ 0 28) = _
    rw [zm_ws]
    exact nI_clamp (by omega)
  refine ⟨by rw [hs]; exact zc_Sup (by decide) h1, hN, ?_, ?_, (hne 107 (by decide)).trans h5, ?_, fun r hr => (hne r (by have : 200 ≤ r := Nat.le_trans (by omega) hr; omega)).trans (h7 r hr), cf', by rw [hs]; exact va_up_self _ _ _, ?_⟩
  · intro j hj hn
    rw [hgr _ (by omega)]
    exact h3 j hj hn
  · intro j t hj ht hn
    rw [hgr _ (by omega)]
    exact h4 j t hj ht hn
  · intro i hi
    have q := h6 i hi
    unfold zc_sl at q ⊢
    rw [hgr (200 + 2 * i) (by omega), hgr (201 + 2 * i) (by omega), hne (200 + 2 * i) (by omega), hne (201 + 2 * i) (by omega)]
    exact q
  · intro j hj
    rw [e28] at hj
    exact hc j hj
theorem zc_carry {sh sh' : Nat → Option zw_Sh} {g g' u : zm_T} {cf : Nat → Option Nat} {cl x : Int32} {f : Nat} (hR : zc_R sh g u) (hI : zm_I u) (hc : sh 120 = some (.inr (2, 12, some cf))) (hcf : ∀ j : Nat, j < zn (u 0 28) → cf j = some (200 + 2 * zn (u 29 j))) (hf : f < 3) (h12 : (u 0 28).toInt < 12) (hs : sh' = va_up sh 120 (some (.inr (2, 12, some (va_up cf (zn (u 0 28)) (some (200 + 2 * zn cl))))))) (hg : g' = zm_w (zm_w (zm_w g 106 2 (u 0 28 + 1)) 119 f x) 106 3 x) :
    zc_R sh' g' (zm_w (zm_w (zm_w (zm_w u 29 (zn (u 0 28)) cl) 0 28 (u 0 28 + 1)) 26 f x) 0 27 x) := by
  obtain ⟨h1, h2, h3, h4, h5, h6, h7, -⟩ := hR
  have hca := zI_ca hI
  have hne : ∀ r : Nat, r ≠ 120 → sh' r = sh r := fun r h => by rw [hs]; exact va_up_ne _ _ h
  have hgr : ∀ r : Nat, r ≠ 106 → r ≠ 119 → g' r = g r := fun r h h' => by rw [hg, zm_wr h, zm_wr h', zm_wr h]
  have hN1 : zc_N g (zm_w u 29 (zn (u 0 28)) cl) := zc_Nm h2 (fun r i q => by have := zc_lmr q; omega) _
  have hN : zc_N g' (zm_w (zm_w (zm_w (zm_w u 29 (zn (u 0 28)) cl) 0 28 (u 0 28 + 1)) 26 f x) 0 27 x) := by
    rw [hg]
    exact zc_Nw (zc_Nw (zc_Nw hN1 (r := 106) (i := 2) rfl _) (zc_l119 hf) _) (r := 106) (i := 3) rfl _
  have hu : ∀ r i : Nat, r ≠ 29 → r ≠ 26 → (r ≠ 0 ∨ (i ≠ 28 ∧ i ≠ 27)) → zm_w (zm_w (zm_w (zm_w u 29 (zn (u 0 28)) cl) 0 28 (u 0 28 + 1)) 26 f x) 0 27 x r i = u r i := fun r i a b c => by rw [zm_wn _ _ (by omega), zm_wn _ _ (Or.inl b), zm_wn _ _ (by omega), zm_wn _ _ (Or.inl a)]
  have e28 : zn (zm_w (zm_w (zm_w (zm_w u 29 (zn (u 0 28)) cl) 0 28 (u 0 28 + 1)) 26 f x) 0 27 x 0 28) = zn (u 0 28) + 1 := by
    rw [zm_wn _ _ (by omega), zm_wn _ _ (by omega), zm_ws]
    have h := zi_add (u 0 28) 1 (by rw [show (1 : Int32).toInt = 1 from rfl]; omega)
    rw [show (1 : Int32).toInt = 1 from rfl] at h
    rw [zi_n, zi_n, h]; omega
  refine ⟨by rw [hs]; exact zc_Sup (by decide) h1, hN, ?_, ?_, ?_, ?_, ?_, va_up cf (zn (u 0 28)) (some (200 + 2 * zn cl)), by rw [hs]; exact va_up_self _ _ _, ?_⟩
  · intro j hj hn
    rw [hu 20 _ (by decide) (by decide) (by omega)] at hn
    rw [hgr _ (by omega) (by omega), hu 22 _ (by decide) (by decide) (by omega)]
    exact h3 j hj hn
  · intro j t hj ht hn
    rw [hu 23 _ (by decide) (by decide) (by omega)] at hn
    rw [hgr _ (by omega) (by omega), hu 24 _ (by decide) (by decide) (by omega)]
    exact h4 j t hj ht hn
  · rw [hu 0 8 (by decide) (by decide) (by omega)]; exact (hne 107 (by decide)).trans h5
  · intro i hi
    rw [hu 0 8 (by decide) (by decide) (by omega)] at hi
    have q := h6 i hi
    unfold zc_sl at q ⊢
    rw [hu 9 i (by decide) (by decide) (by omega), hu 10 i (by decide) (by decide) (by omega), hu 11 i (by decide) (by decide) (by omega), hu 12 i (by decide) (by decide) (by omega), hu 13 i (by decide) (by decide) (by omega), hu 14 i (by decide) (by decide) (by omega), hu 15 i (by decide) (by decide) (by omega), hu 16 i (by decide) (by decide) (by omega), hu 17 i (by decide) (by decide) (by omega), hu 18 i (by decide) (by decide) (by omega), hgr (200 + 2 * i) (by omega) (by omega), hgr (201 + 2 * i) (by omega) (by omega), hne (200 + 2 * i) (by omega), hne (201 + 2 * i) (by omega)]
    exact q
  · intro r hr
    rw [hu 0 8 (by decide) (by decide) (by omega)] at hr
    rw [hne r (by omega)]
    exact h7 r hr
  · intro j hj
    rw [e28] at hj
    rw [zm_wn _ _ (by omega), zm_wn _ _ (by omega), zm_wn _ _ (by omega)]
    by_cases e : j = zn (u 0 28)
    · subst e; rw [va_up_self, zm_ws]
    · rw [va_up_ne _ _ e, zm_wn _ _ (Or.inr e)]
      exact hcf j (by omega)
theorem zs_mayp {u : zm_T} {c c' : Int32} {f : Nat} {o : Int32} (hc : c = c') (h : zs_bk u c ∧ (u 7 (3 * zn c + f) &&& o).toInt = o.toInt) : (zs_may u c' f &&& o).toInt = o.toInt := by
  subst hc
  unfold zs_may
  rw [if_pos h.1]
  exact h.2
theorem zs_mayn {u : zm_T} {c c' : Int32} {f : Nat} {o : Int32} (hc : c = c') (ho : ¬ o.toInt = 0) (h : ¬ (zs_bk u c ∧ (u 7 (3 * zn c + f) &&& o).toInt = o.toInt)) : ¬ (zs_may u c' f &&& o).toInt = o.toInt := by
  subst hc
  unfold zs_may
  by_cases hb : zs_bk u c
  · rw [if_pos hb]
    exact fun q => h ⟨hb, q⟩
  · rw [if_neg hb, Int32.zero_and]
    intro q
    exact ho (q.symm.trans zi_0)

set_option maxHeartbeats 4000000 in
set_option maxRecDepth 100000 in
theorem c_X9_serve (l : Launch) (Y : zw_Y) (N0 : Nat) (ad : Nat → Nat) (sh : Nat → Option zw_Sh) (g u : zm_T) (hR : zc_R sh g u) (hI : zm_I u) (k cl : Int32) : zw_Met l Y N0 yX9_serve cX9_serve 6 (some .int) 3 68 0 0 ad sh g [.ref (ad 100), .int k, .int cl] (zc_Po ad sh g (sp_serve k cl u)) := by
  refine zw_meth (by decide) (Nat.le_of_ble_eq_true rfl) ?_
  intro p e s m below meth c ls X hnm hl hW
  have hl : lv_has ls 6 [(0, .ref (ad 100)), (1, .int k), (2, .int cl)] := hl
  have hS := hR.1
  have hN0 := hR.2.1
  have hN := hR.2.1
  have hB : ∀ i : Nat, i < 12 → -1 ≤ (u 5 i).toInt := fun i hi => (zI_bk hI i hi).1
  have hT : ∀ i : Nat, i < 12 → -1 ≤ (u 23 i).toInt := fun i hi => (zI_tk hI i hi).1
  have hse := zI_se hI
  have hke := zI_ke hI
  refine lv_aload_n X.1 X.2.1 dX9_serve_0 rfl (lv_at hl 0 rfl) ?_
  refine zr_get (r := 100) (v := .ref (ad 101)) X hW fs_X9_9_8 dX9_serve_1 (zc_s100 hS) rfl rfl rfl ?_
  refine lv_iconst (v := 1) X.1 X.2.1 dX9_serve_4 (by decide) ?_
  refine zr_iald (r := 101) (v := u 1 1) X hW dX9_serve_5 (zc_s101 hS) rfl rfl (zi_vp (by decide)) ((show g 101 (1 : Int32).toNatClampNeg = g 101 1 from rfl).trans (hN0 _ _ _ _ rfl)) ?_
  refine lv_istore_n (lv' := [(3, .int (u 1 1)), (0, .ref (ad 100)), (1, .int k), (2, .int cl)]) X.1 X.2.1 dX9_serve_6 rfl hl (by decide) rfl (fun ls hl => ?_)
  refine lv_aload_n X.1 X.2.1 dX9_serve_7 rfl (lv_at hl 1 rfl) ?_
  refine zr_get (r := 100) (v := .ref (ad 106)) X hW fs_X9_35_8 dX9_serve_8 (zc_s100 hS) rfl rfl rfl ?_
  refine lv_iload_n X.1 X.2.1 dX9_serve_11 rfl (lv_at hl 0 rfl) ?_
  refine lv_aload_n X.1 X.2.1 dX9_serve_12 rfl (lv_at hl 1 rfl) ?_
  refine zr_get (r := 100) (v := .int (u 0 0)) X hW fs_X9_68_8 dX9_serve_13 (zc_s100 hS) rfl rfl (congrArg Value.int (hN0 _ _ _ _ rfl)) ?_
  refine lv_isub X.1 X.2.1 dX9_serve_16 ?_
  refine zr_callV (As := [.int ((u 1 1) - (u 0 0))]) (rest := []) X hW hl.1 md_X2_dropClaimsBefore ms_X9_243 dX9_serve_17 (zc_s106 hS) rfl rfl rfl rfl (Nat.le_of_ble_eq_true rfl) ⟨Nat.le_of_ble_eq_true rfl, Nat.le_of_ble_eq_true rfl⟩ ⟨Nat.le_of_ble_eq_true rfl, Nat.le_of_ble_eq_true rfl⟩ (c_X2_dropClaimsBefore l Y N0 ad sh g u hR hI) (fun v9 ad9 sh9 g9 H locs hp hW => ?_)
  obtain ⟨rfl, rfl, ⟨cf9, hsh9, hcf9⟩, hg9⟩ := hp
  have hR2 : zc_R sh9 g9 (zs_fo u) := zc_drop hR hI hsh9 hcf9 hg9
  have hI2 := zI_fo hI
  have hfr : zc_fr ad sh g ad sh9 g9 := ⟨fun _ _ => rfl, fun r hr => ⟨by rw [hsh9]; exact va_up_ne _ _ (by omega), by rw [hg9]; exact zm_wr (by omega)⟩⟩
  have hsp : sp_serve k cl u = sp_serve1 k cl (zs_fo u) := rfl
  rw [show u 1 1 = zs_fo u 1 1 from rfl] at hl
  rw [hsp]
  clear hsp hsh9 hcf9 hg9
  generalize zs_fo u = v1 at hR2 hI2 hl ⊢
  obtain ⟨u, rfl⟩ : ∃ z : zm_T, z = v1 := ⟨_, rfl⟩
  obtain ⟨sh, rfl⟩ : ∃ z : Nat → Option zw_Sh, z = sh9 := ⟨_, rfl⟩
  obtain ⟨g, rfl⟩ : ∃ z : zm_T, z = g9 := ⟨_, rfl⟩
  have hR := hR2
  have hI := hI2
  have hS := hR.1
  have hN0 := hR.2.1
  have hN := hR.2.1
  have hB : ∀ i : Nat, i < 12 → -1 ≤ (u 5 i).toInt := fun i hi => (zI_bk hI i hi).1
  have hT : ∀ i : Nat, i < 12 → -1 ≤ (u 23 i).toInt := fun i hi => (zI_tk hI i hi).1
  have hse := zI_se hI
  have hke := zI_ke hI
  refine lv_aload_n X.1 X.2.1 dX9_serve_20 rfl (lv_at hl 1 rfl) ?_
  refine lv_iload_n X.1 X.2.1 dX9_serve_21 rfl (lv_at hl 2 rfl) ?_
  refine lv_aload_n X.1 X.2.1 dX9_serve_22 rfl (lv_at hl 1 rfl) ?_
  refine zr_get (r := 100) (v := .ref (ad 102)) X hW fs_X9_13_8 dX9_serve_23 (zc_s100 hS) rfl rfl rfl ?_
  refine lv_iconst (v := 1) X.1 X.2.1 dX9_serve_26 (by decide) ?_
  refine zr_iald (r := 102) (v := u 3 1) X hW dX9_serve_27 (zc_s102 hS) rfl rfl (zi_vp (by decide)) ((show g 102 (1 : Int32).toNatClampNeg = g 102 1 from rfl).trans (hN0 _ _ _ _ rfl)) ?_
  refine zr_callV (As := [.int k, .int (u 3 1)]) (rest := []) X hW hl.1 md_X9_openTicket ms_X9_216 dX9_serve_28 (zc_s100 hS) rfl rfl rfl rfl (Nat.le_of_ble_eq_true rfl) ⟨Nat.le_of_ble_eq_true rfl, Nat.le_of_ble_eq_true rfl⟩ ⟨Nat.le_of_ble_eq_true rfl, Nat.le_of_ble_eq_true rfl⟩ (c_X9_openTicket l Y N0 ad sh g u hR hI k (u 3 1)) (fun v9 ad9 sh9 g9 H locs hp hW => ?_)
  rcases hp with ⟨rfl, rfl, rfl, ⟨h_1, h8⟩ | ⟨h_1, h8⟩⟩
  · subst h8
    have h_1 : zs_op u (u 3 1) k 2 := h_1
    have hq_2 := (hR.2.2.2.2.2.1 (zn k) (by simp only [zi_n]; omega)).2.1 h_1.2.1
    refine lv_astore (lv' := [(4, .ref (ad (200 + 2 * (zn k)))), (3, .int (u 1 1)), (0, .ref (ad 100)), (1, .int k), (2, .int cl)]) X.1 X.2.1 dX9_serve_31 hl (by decide) rfl (fun ls hl => ?_)
    refine lv_aload X.1 X.2.1 dX9_serve_33 (lv_at hl 0 rfl) ?_
    refine lv_ifnonnull (tgt := 42) X.1 X.2.1 dX9_serve_35 (by decide) ?_
    refine lv_aload_n X.1 X.2.1 dX9_serve_42 rfl (lv_at hl 2 rfl) ?_
    refine lv_iload_n X.1 X.2.1 dX9_serve_43 rfl (lv_at hl 4 rfl) ?_
    refine lv_aload X.1 X.2.1 dX9_serve_44 (lv_at hl 0 rfl) ?_
    refine zr_get (r := (200 + 2 * (zn k))) (v := .int (u 12 ((zn k)))) X hW fs_X9_220_6 dX9_serve_46 hq_2.1 rfl rfl (congrArg Value.int hq_2.2.2.2.1) ?_
    refine zr_callV (As := [.int cl, .int (u 12 ((zn k)))]) (rest := []) X hW hl.1 md_X9_openClaim ms_X9_223 dX9_serve_49 (zc_s100 hS) rfl rfl rfl rfl (Nat.le_of_ble_eq_true rfl) ⟨Nat.le_of_ble_eq_true rfl, Nat.le_of_ble_eq_true rfl⟩ ⟨Nat.le_of_ble_eq_true rfl, Nat.le_of_ble_eq_true rfl⟩ (c_X9_openClaim l Y N0 ad sh g u hR hI cl (u 12 ((zn k)))) (fun v9 ad9 sh9 g9 H locs hp hW => ?_)
    rcases hp with ⟨rfl, rfl, rfl, ⟨h_3, h8⟩ | ⟨h_3, h8⟩⟩
    · subst h8
      have h_3 : zs_op u (u 12 ((zn k))) cl 4 := h_3
      have hq_4 := (hR.2.2.2.2.2.1 (zn cl) (by simp only [zi_n]; omega)).2.2.2 h_3.2.1
      refine lv_astore (lv' := [(5, .ref (ad (200 + 2 * (zn cl)))), (4, .ref (ad (200 + 2 * (zn k)))), (3, .int (u 1 1)), (0, .ref (ad 100)), (1, .int k), (2, .int cl)]) X.1 X.2.1 dX9_serve_52 hl (by decide) rfl (fun ls hl => ?_)
      refine lv_aload X.1 X.2.1 dX9_serve_54 (lv_at hl 1 rfl) ?_
      refine lv_ifnull X.1 X.2.1 dX9_serve_56 ?_
      refine lv_aload X.1 X.2.1 dX9_serve_59 (lv_at hl 0 rfl) ?_
      refine lv_ifnonnull (tgt := 67) X.1 X.2.1 dX9_serve_61 (by decide) ?_
      refine lv_aload X.1 X.2.1 dX9_serve_67 (lv_at hl 0 rfl) ?_
      refine zr_get (r := (200 + 2 * (zn cl))) (v := .int (u 11 ((zn cl)))) X hW fs_X9_228_1 dX9_serve_69 hq_4.1 rfl rfl (congrArg Value.int hq_4.2.2.2.1) ?_
      refine lv_aload X.1 X.2.1 dX9_serve_72 (lv_at hl 1 rfl) ?_
      refine zr_get (r := (200 + 2 * (zn k))) (v := .int (u 11 ((zn k)))) X hW fs_X9_227_6 dX9_serve_74 hq_2.1 rfl rfl (congrArg Value.int hq_2.2.2.1) ?_
      refine zr_icmp_ne (a := (u 11 ((zn cl))).toInt) (b := (u 11 ((zn k))).toInt) (tgt := 91) X dX9_serve_77 (by decide) rfl rfl (fun c_5 => ?_) (fun c_5 => ?_)
      · refine lv_bipush (v := (-3)) X.1 X.2.1 dX9_serve_91 (by decide) ?_
        have e9 : sp_serve1 k cl u = ((-3), u) := (by unfold sp_serve1; (repeat (first | refine (if_pos (by first | omega)).trans ?_ | refine (if_neg (by first | omega)).trans ?_)); rfl)
        exact zr_iret X hW dX9_serve_93 (Nat.le_refl _) (Nat.le_refl _) ⟨by rw [e9], by rw [e9]; exact hR, hfr⟩
      · refine lv_aload X.1 X.2.1 dX9_serve_80 (lv_at hl 0 rfl) ?_
        refine zr_get (r := (200 + 2 * (zn cl))) (v := .ref (ad ((201 + 2 * (zn cl))))) X hW fs_X9_229_1 dX9_serve_82 hq_4.1 rfl rfl rfl ?_
        refine zr_get (r := (201 + 2 * (zn cl))) (v := .int (u 16 ((zn cl)))) X hW fs_X9_233_3 dX9_serve_85 hq_4.2.1 rfl rfl (congrArg Value.int hq_4.2.2.2.2.2.2.1) ?_
        refine zr_if_ne (a := (u 16 ((zn cl))).toInt) (tgt := 94) X dX9_serve_88 (by decide) rfl (fun c_6 => ?_) (fun c_6 => ?_)
        · refine lv_aload_n X.1 X.2.1 dX9_serve_94 rfl (lv_at hl 3 rfl) ?_
          refine lv_aload X.1 X.2.1 dX9_serve_95 (lv_at hl 0 rfl) ?_
          refine zr_get (r := (200 + 2 * (zn cl))) (v := .int (u 13 ((zn cl)))) X hW fs_X9_236_1 dX9_serve_97 hq_4.1 rfl rfl (congrArg Value.int hq_4.2.2.2.2.1) ?_
          refine lv_iload_n X.1 X.2.1 dX9_serve_100 rfl (lv_at hl 2 rfl) ?_
          refine zr_callV (As := [.int (u 13 ((zn cl))), .int (u 1 1)]) (rest := []) X hW hl.1 md_X9_near ms_X9_205 dX9_serve_101 (zc_s100 hS) rfl rfl rfl rfl (Nat.le_of_ble_eq_true rfl) ⟨Nat.le_of_ble_eq_true rfl, Nat.le_of_ble_eq_true rfl⟩ ⟨Nat.le_of_ble_eq_true rfl, Nat.le_of_ble_eq_true rfl⟩ (c_X9_near l Y N0 ad sh g u hS hN hI (u 13 ((zn cl))) (u 1 1)) (fun v9 ad9 sh9 g9 H locs hp hW => ?_)
          rcases hp with ⟨rfl, rfl, rfl, ⟨h_7, h9⟩ | ⟨h_7, h9⟩⟩
          · subst h9
            have h_7 : zs_nr u (u 13 ((zn cl))) (u 1 1) := h_7
            refine zr_if_eq (a := 1) (tgt := 130) X dX9_serve_104 (by decide) (by decide) (fun c9 => absurd c9 (by decide)) (fun _ => ?_)
            refine lv_iload_n X.1 X.2.1 dX9_serve_107 rfl (lv_at hl 2 rfl) ?_
            refine lv_aload X.1 X.2.1 dX9_serve_108 (lv_at hl 1 rfl) ?_
            refine zr_get (r := (200 + 2 * (zn k))) (v := .int (u 14 ((zn k)))) X hW fs_X9_237_6 dX9_serve_110 hq_2.1 rfl rfl (congrArg Value.int hq_2.2.2.2.2.2.1) ?_
            refine zr_icmp_gt (a := (u 1 1).toInt) (b := (u 14 ((zn k))).toInt) (tgt := 130) X dX9_serve_113 (by decide) rfl rfl (fun c_8 => ?_) (fun c_8 => ?_)
            · refine lv_bipush (v := (-4)) X.1 X.2.1 dX9_serve_130 (by decide) ?_
              have e9 : sp_serve1 k cl u = ((-4), u) := (by unfold sp_serve1; (repeat (first | refine (if_pos (by first | omega)).trans ?_ | refine (if_neg (by first | omega)).trans ?_)); rfl)
              exact zr_iret X hW dX9_serve_132 (Nat.le_refl _) (Nat.le_refl _) ⟨by rw [e9], by rw [e9]; exact hR, hfr⟩
            · refine lv_aload X.1 X.2.1 dX9_serve_116 (lv_at hl 1 rfl) ?_
              refine zr_get (r := (200 + 2 * (zn k))) (v := .int (u 13 ((zn k)))) X hW fs_X9_246_6 dX9_serve_118 hq_2.1 rfl rfl (congrArg Value.int hq_2.2.2.2.2.1) ?_
              refine lv_iload_n X.1 X.2.1 dX9_serve_121 rfl (lv_at hl 2 rfl) ?_
              refine lv_aload_n X.1 X.2.1 dX9_serve_122 rfl (lv_at hl 3 rfl) ?_
              refine zr_get (r := 100) (v := .int (u 0 0)) X hW fs_X9_68_8 dX9_serve_123 (zc_s100 hS) rfl rfl (congrArg Value.int (hN0 _ _ _ _ rfl)) ?_
              refine lv_iadd X.1 X.2.1 dX9_serve_126 ?_
              refine zr_icmp_le (a := (u 13 ((zn k))).toInt) (b := ((u 1 1) + (u 0 0)).toInt) (tgt := 133) X dX9_serve_127 (by decide) rfl rfl (fun c_9 => ?_) (fun c_9 => ?_)
              · refine lv_aload_n X.1 X.2.1 dX9_serve_133 rfl (lv_at hl 3 rfl) ?_
                refine zr_get (r := 100) (v := .ref (ad 106)) X hW fs_X9_35_8 dX9_serve_134 (zc_s100 hS) rfl rfl rfl ?_
                refine lv_aload X.1 X.2.1 dX9_serve_137 (lv_at hl 0 rfl) ?_
                refine zr_callV (As := [.ref (ad (200 + 2 * (zn cl)))]) (rest := []) X hW hl.1 md_X2_hasServed ms_X9_249 dX9_serve_139 (zc_s106 hS) rfl rfl rfl rfl (Nat.le_of_ble_eq_true rfl) ⟨Nat.le_of_ble_eq_true rfl, Nat.le_of_ble_eq_true rfl⟩ ⟨Nat.le_of_ble_eq_true rfl, Nat.le_of_ble_eq_true rfl⟩ (c_X2_hasServed l Y N0 ad sh g u hR hI (zn cl) (by simp only [zi_n]; omega) h_3.2.1) (fun v9 ad9 sh9 g9 H locs hp hW => ?_)
                rcases hp with ⟨rfl, rfl, rfl, ⟨h_10, h9⟩ | ⟨h_10, h9⟩⟩
                · subst h9
                  have h_10 : zs_rep u (zn cl) (zn (u 0 28)) = true := h_10
                  refine zr_if_eq (a := 1) (tgt := 148) X dX9_serve_142 (by decide) (by decide) (fun c9 => absurd c9 (by decide)) (fun _ => ?_)
                  refine lv_bipush (v := (-5)) X.1 X.2.1 dX9_serve_145 (by decide) ?_
                  have e9 : sp_serve1 k cl u = ((-5), u) := (by unfold sp_serve1; (repeat (first | refine (if_pos (by first | omega | exact h_10)).trans ?_ | refine (if_neg (by first | omega | exact h_10)).trans ?_)); rfl)
                  exact zr_iret X hW dX9_serve_147 (Nat.le_refl _) (Nat.le_refl _) ⟨by rw [e9], by rw [e9]; exact hR, hfr⟩
                · subst h9
                  have h_10 : ¬ (zs_rep u (zn cl) (zn (u 0 28)) = true) := h_10
                  refine zr_if_eq (a := 0) (tgt := 148) X dX9_serve_142 (by decide) (by decide) (fun _ => ?_) (fun c9 => absurd c9 (by decide))
                  refine lv_aload_n X.1 X.2.1 dX9_serve_148 rfl (lv_at hl 3 rfl) ?_
                  refine zr_get (r := 100) (v := .ref (ad 103)) X hW fs_X9_19_8 dX9_serve_149 (zc_s100 hS) rfl rfl rfl ?_
                  refine lv_aload X.1 X.2.1 dX9_serve_152 (lv_at hl 0 rfl) ?_
                  refine zr_get (r := (200 + 2 * (zn cl))) (v := .int (u 11 ((zn cl)))) X hW fs_X9_228_1 dX9_serve_154 hq_4.1 rfl rfl (congrArg Value.int hq_4.2.2.2.1) ?_
                  refine lv_aload X.1 X.2.1 dX9_serve_157 (lv_at hl 0 rfl) ?_
                  refine zr_get (r := (200 + 2 * (zn cl))) (v := .ref (ad ((201 + 2 * (zn cl))))) X hW fs_X9_229_1 dX9_serve_159 hq_4.1 rfl rfl rfl ?_
                  have hsc := zI_sl hI (zn cl) (by simp only [zi_n]; omega)
                  have ecl : u 11 (zn cl) = u 11 (zn k) := zi_ext (by omega)
                  refine zr_callV (As := [.int (u 11 ((zn cl))), .ref (ad ((201 + 2 * (zn cl))))]) (rest := []) X hW hl.1 md_X0_permits ms_X9_253 dX9_serve_162 (zc_s103 hS) rfl rfl rfl rfl (Nat.le_of_ble_eq_true rfl) ⟨Nat.le_of_ble_eq_true rfl, Nat.le_of_ble_eq_true rfl⟩ ⟨Nat.le_of_ble_eq_true rfl, Nat.le_of_ble_eq_true rfl⟩ (c_X0_permits l Y N0 ad sh g u hS hN hB (u 11 ((zn cl))) (zn cl) hq_4 (by omega)) (fun v9 ad9 sh9 g9 H locs hp hW => ?_)
                  rcases hp with ⟨rfl, rfl, rfl, ⟨h_11, h9⟩ | ⟨h_11, h9⟩⟩
                  · subst h9
                    have h_11 : zs_bk u (u 11 ((zn cl))) ∧ (u 7 (3 * zn (u 11 ((zn cl))) + zn (u 17 (zn cl))) &&& u 16 (zn cl)).toInt = (u 16 (zn cl)).toInt := h_11
                    have hm := zs_mayp ecl h_11
                    refine zr_if_ne (a := 1) (tgt := 171) X dX9_serve_165 (by decide) (by decide) (fun _ => ?_) (fun c9 => absurd c9 (by decide))
                    refine lv_aload_n X.1 X.2.1 dX9_serve_171 rfl (lv_at hl 3 rfl) ?_
                    refine zr_get (r := 100) (v := .ref (ad 106)) X hW fs_X9_35_8 dX9_serve_172 (zc_s100 hS) rfl rfl rfl ?_
                    refine zr_callV (As := []) (rest := []) X hW hl.1 md_X2_cacheIsFull ms_X9_257 dX9_serve_175 (zc_s106 hS) rfl rfl rfl rfl (Nat.le_of_ble_eq_true rfl) ⟨Nat.le_of_ble_eq_true rfl, Nat.le_of_ble_eq_true rfl⟩ ⟨Nat.le_of_ble_eq_true rfl, Nat.le_of_ble_eq_true rfl⟩ (c_X2_cacheIsFull l Y N0 ad sh g u hS hN) (fun v9 ad9 sh9 g9 H locs hp hW => ?_)
                    rcases hp with ⟨rfl, rfl, rfl, ⟨h_12, h9⟩ | ⟨h_12, h9⟩⟩
                    · subst h9
                      have h_12 : 12 ≤ (u 0 28).toInt := h_12
                      have hca := zI_ca hI
                      refine zr_if_eq (a := 1) (tgt := 184) X dX9_serve_178 (by decide) (by decide) (fun c9 => absurd c9 (by decide)) (fun _ => ?_)
                      refine lv_bipush (v := (-7)) X.1 X.2.1 dX9_serve_181 (by decide) ?_
                      have e9 : sp_serve1 k cl u = ((-7), u) := (by unfold sp_serve1; (repeat (first | refine (if_pos (by first | omega | exact h_10)).trans ?_ | refine (if_neg (by first | omega | exact h_10)).trans ?_)); rfl)
                      exact zr_iret X hW dX9_serve_183 (Nat.le_refl _) (Nat.le_refl _) ⟨by rw [e9], by rw [e9]; exact hR, hfr⟩
                    · subst h9
                      have h_12 : ¬ (12 ≤ (u 0 28).toInt) := h_12
                      have hca := zI_ca hI
                      refine zr_if_eq (a := 0) (tgt := 184) X dX9_serve_178 (by decide) (by decide) (fun _ => ?_) (fun c9 => absurd c9 (by decide))
                      refine lv_aload_n X.1 X.2.1 dX9_serve_184 rfl (lv_at hl 3 rfl) ?_
                      refine zr_get (r := 100) (v := .ref (ad 106)) X hW fs_X9_35_8 dX9_serve_185 (zc_s100 hS) rfl rfl rfl ?_
                      refine lv_aload X.1 X.2.1 dX9_serve_188 (lv_at hl 0 rfl) ?_
                      obtain ⟨cf, hcf, hcf2⟩ := hR.2.2.2.2.2.2.2
                      have hca := zI_ca hI
                      refine zr_callV (As := [.ref (ad (200 + 2 * (zn cl)))]) (rest := []) X hW hl.1 md_X2_carryOut ms_X9_260 dX9_serve_190 (zc_s106 hS) rfl rfl rfl rfl (Nat.le_of_ble_eq_true rfl) ⟨Nat.le_of_ble_eq_true rfl, Nat.le_of_ble_eq_true rfl⟩ ⟨Nat.le_of_ble_eq_true rfl, Nat.le_of_ble_eq_true rfl⟩ (c_X2_carryOut l Y N0 ad sh g u hS hN cf hcf (zn cl) hq_4 (by omega) (by omega)) (fun v9 ad9 sh9 g9 H locs hp hW => ?_)
                      obtain ⟨rfl, rfl, hsh9, hg9⟩ := hp
                      refine lv_iconst (v := 0) X.1 X.2.1 dX9_serve_193 (by decide) ?_
                      have e9 : sp_serve1 k cl u = (0, zm_w (zm_w (zm_w (zm_w u 29 (zn (u 0 28)) cl) 0 28 (u 0 28 + 1)) 26 (zn (u 17 (zn cl))) (zs_new u (zn cl))) 0 27 (zs_new u (zn cl))) := (by unfold sp_serve1; (repeat (first | refine (if_pos (by first | omega | exact h_10)).trans ?_ | refine (if_neg (by first | omega | exact h_10)).trans ?_)); rfl)
                      have hR9 := zc_carry hR hI hcf hcf2 (f := zn (u 17 (zn cl))) (zi_nl (by omega) (by decide)) (by omega) hsh9 hg9
                      have hf9 : zc_fr ad _ _ ad sh9 g9 := ⟨fun _ _ => rfl, fun r hr => ⟨(show sh9 r = sh r from (by rw [hsh9]; exact va_up_ne _ _ (by omega))).trans (hfr.2 r hr).1, (show g9 r = g r from (by rw [hg9, zm_wr (by omega), zm_wr (by omega), zm_wr (by omega)])).trans (hfr.2 r hr).2⟩⟩
                      exact zr_iret X hW dX9_serve_194 (Nat.le_refl _) (Nat.le_refl _) ⟨by rw [e9], by rw [e9]; exact hR9, hf9⟩
                  · subst h9
                    have h_11 : ¬ (zs_bk u (u 11 ((zn cl))) ∧ (u 7 (3 * zn (u 11 ((zn cl))) + zn (u 17 (zn cl))) &&& u 16 (zn cl)).toInt = (u 16 (zn cl)).toInt) := h_11
                    have hm := zs_mayn ecl (by omega) h_11
                    refine zr_if_ne (a := 0) (tgt := 171) X dX9_serve_165 (by decide) (by decide) (fun c9 => absurd c9 (by decide)) (fun _ => ?_)
                    refine lv_bipush (v := (-6)) X.1 X.2.1 dX9_serve_168 (by decide) ?_
                    have e9 : sp_serve1 k cl u = ((-6), u) := (by unfold sp_serve1; (repeat (first | refine (if_pos (by first | omega | exact h_10)).trans ?_ | refine (if_neg (by first | omega | exact h_10)).trans ?_)); rfl)
                    exact zr_iret X hW dX9_serve_170 (Nat.le_refl _) (Nat.le_refl _) ⟨by rw [e9], by rw [e9]; exact hR, hfr⟩
              · refine lv_bipush (v := (-4)) X.1 X.2.1 dX9_serve_130 (by decide) ?_
                have e9 : sp_serve1 k cl u = ((-4), u) := (by unfold sp_serve1; (repeat (first | refine (if_pos (by first | omega)).trans ?_ | refine (if_neg (by first | omega)).trans ?_)); rfl)
                exact zr_iret X hW dX9_serve_132 (Nat.le_refl _) (Nat.le_refl _) ⟨by rw [e9], by rw [e9]; exact hR, hfr⟩
          · subst h9
            have h_7 : ¬ (zs_nr u (u 13 ((zn cl))) (u 1 1)) := h_7
            refine zr_if_eq (a := 0) (tgt := 130) X dX9_serve_104 (by decide) (by decide) (fun _ => ?_) (fun c9 => absurd c9 (by decide))
            refine lv_bipush (v := (-4)) X.1 X.2.1 dX9_serve_130 (by decide) ?_
            have e9 : sp_serve1 k cl u = ((-4), u) := (by unfold sp_serve1; (repeat (first | refine (if_pos (by first | omega)).trans ?_ | refine (if_neg (by first | omega)).trans ?_)); rfl)
            exact zr_iret X hW dX9_serve_132 (Nat.le_refl _) (Nat.le_refl _) ⟨by rw [e9], by rw [e9]; exact hR, hfr⟩
        · refine lv_bipush (v := (-3)) X.1 X.2.1 dX9_serve_91 (by decide) ?_
          have e9 : sp_serve1 k cl u = ((-3), u) := (by unfold sp_serve1; (repeat (first | refine (if_pos (by first | omega)).trans ?_ | refine (if_neg (by first | omega)).trans ?_)); rfl)
          exact zr_iret X hW dX9_serve_93 (Nat.le_refl _) (Nat.le_refl _) ⟨by rw [e9], by rw [e9]; exact hR, hfr⟩
    · subst h8
      have h_3 : ¬ zs_op u (u 12 ((zn k))) cl 4 := h_3
      refine lv_astoreN (lv' := [(5, .null), (4, .ref (ad (200 + 2 * (zn k)))), (3, .int (u 1 1)), (0, .ref (ad 100)), (1, .int k), (2, .int cl)]) X.1 X.2.1 dX9_serve_52 hl (by decide) rfl (fun ls hl => ?_)
      refine lv_aload X.1 X.2.1 dX9_serve_54 (lv_at hl 1 rfl) ?_
      refine lv_ifnull X.1 X.2.1 dX9_serve_56 ?_
      refine lv_aloadN X.1 X.2.1 dX9_serve_59 (lv_at hl 0 rfl) ?_
      refine lv_ifnonnullN X.1 X.2.1 dX9_serve_61 ?_
      refine lv_bipush (v := (-2)) X.1 X.2.1 dX9_serve_64 (by decide) ?_
      have e9 : sp_serve1 k cl u = ((-2), u) := (by unfold sp_serve1; (repeat (first | refine (if_pos (by first | omega)).trans ?_ | refine (if_neg (by first | omega)).trans ?_)); rfl)
      exact zr_iret X hW dX9_serve_66 (Nat.le_refl _) (Nat.le_refl _) ⟨by rw [e9], by rw [e9]; exact hR, hfr⟩
  · subst h8
    have h_1 : ¬ zs_op u (u 3 1) k 2 := h_1
    refine lv_astoreN (lv' := [(4, .null), (3, .int (u 1 1)), (0, .ref (ad 100)), (1, .int k), (2, .int cl)]) X.1 X.2.1 dX9_serve_31 hl (by decide) rfl (fun ls hl => ?_)
    refine lv_aloadN X.1 X.2.1 dX9_serve_33 (lv_at hl 0 rfl) ?_
    refine lv_ifnonnullN X.1 X.2.1 dX9_serve_35 ?_
    refine lv_null X.1 X.2.1 dX9_serve_38 ?_
    refine lv_goto (tgt := 52) X.1 X.2.1 dX9_serve_39 (by decide) ?_
    refine lv_astoreN (lv' := [(5, .null), (4, .null), (3, .int (u 1 1)), (0, .ref (ad 100)), (1, .int k), (2, .int cl)]) X.1 X.2.1 dX9_serve_52 hl (by decide) rfl (fun ls hl => ?_)
    refine lv_aloadN X.1 X.2.1 dX9_serve_54 (lv_at hl 1 rfl) ?_
    refine lv_ifnullN (tgt := 64) X.1 X.2.1 dX9_serve_56 (by decide) ?_
    refine lv_bipush (v := (-2)) X.1 X.2.1 dX9_serve_64 (by decide) ?_
    have e9 : sp_serve1 k cl u = ((-2), u) := (by unfold sp_serve1; (repeat (first | refine (if_pos (by first | omega)).trans ?_ | refine (if_neg (by first | omega)).trans ?_)); rfl)
    exact zr_iret X hW dX9_serve_66 (Nat.le_refl _) (Nat.le_refl _) ⟨by rw [e9], by rw [e9]; exact hR, hfr⟩
