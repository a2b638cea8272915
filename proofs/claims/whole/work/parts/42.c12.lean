theorem zc_sfs (n : Nat) : va_up (zc_sf n) n (some (200 + 2 * n)) = zc_sf (n + 1) := by
  funext i
  by_cases h : i = n
  · subst h; rw [va_up_self]; unfold zc_sf; rw [if_pos (by omega)]
  · rw [va_up_ne _ _ h]; unfold zc_sf
    by_cases h2 : i < n
    · rw [if_pos h2, if_pos (by omega)]
    · rw [if_neg h2, if_neg (by omega)]
theorem zc_sh200 : ∀ r ∈ zc_shl.map Prod.fst, r < 200 := by decide
theorem zc_S200 {sh : Nat → Option zw_Sh} {r : Nat} {x : Option zw_Sh} (hr : 200 ≤ r) (h : zc_S sh) : zc_S (va_up sh r x) := zc_Sup (fun q => by have := zc_sh200 r q; omega) h
theorem zc_lm200 {r i : Nat} (h : 200 ≤ r) : zc_lm r i = none := by
  cases hq : zc_lm r i with
  | none => rfl
  | some q =>
    obtain ⟨m, k⟩ := q
    exfalso
    unfold zc_lm at hq
    by_cases c0 : r = 100 ∧ i = 0
    · omega
    rw [if_neg c0] at hq
    by_cases c1 : r = 100 ∧ i = 8
    · omega
    rw [if_neg c1] at hq
    by_cases c2 : r = 100 ∧ i = 10
    · omega
    rw [if_neg c2] at hq
    by_cases c3 : r = 100 ∧ i = 11
    · omega
    rw [if_neg c3] at hq
    by_cases c4 : r = 101 ∧ i < 6
    · omega
    rw [if_neg c4] at hq
    by_cases c5 : r = 102 ∧ i < 6
    · omega
    rw [if_neg c5] at hq
    by_cases c6 : r = 108 ∧ i < 200
    · omega
    rw [if_neg c6] at hq
    by_cases c7 : r = 109 ∧ i < 6
    · omega
    rw [if_neg c7] at hq
    by_cases c8 : r = 110 ∧ i < 6
    · omega
    rw [if_neg c8] at hq
    by_cases c9 : r = 112 ∧ i < 6
    · omega
    rw [if_neg c9] at hq
    by_cases c10 : r = 113 ∧ i < 6
    · omega
    rw [if_neg c10] at hq
    by_cases c11 : 121 ≤ r ∧ r < 127 ∧ i < 3
    · omega
    rw [if_neg c11] at hq
    by_cases c12 : 127 ≤ r ∧ r < 133 ∧ i < 3
    · omega
    rw [if_neg c12] at hq
    by_cases c13 : r = 106 ∧ i = 2
    · omega
    rw [if_neg c13] at hq
    by_cases c14 : r = 106 ∧ i = 3
    · omega
    rw [if_neg c14] at hq
    by_cases c15 : r = 119 ∧ i < 3
    · omega
    rw [if_neg c15] at hq
    by_cases c16 : 115 ≤ r ∧ r < 119 ∧ i = 0
    · omega
    rw [if_neg c16] at hq
    by_cases c17 : 115 ≤ r ∧ r < 119 ∧ i = 1
    · omega
    rw [if_neg c17] at hq
    by_cases c18 : 115 ≤ r ∧ r < 119 ∧ i = 3
    · omega
    rw [if_neg c18] at hq
    by_cases c19 : (r = 133 ∨ r = 135 ∨ r = 137 ∨ r = 139) ∧ i < 2
    · omega
    rw [if_neg c19] at hq
    cases hq
theorem zc_Nv {g u : zm_T} (h : zc_N g u) {r : Nat} {f : Nat → Int32} (hr : 200 ≤ r) : zc_N (va_up g r f) u := by
  intro r' i' m k hl
  by_cases e : r' = r
  · subst e; rw [zc_lm200 hr] at hl; cases hl
  · rw [va_up_ne _ _ e]; exact h r' i' m k hl
theorem zc_Nmk {g u : zm_T} (h : zc_N g u) (v : Nat → Int32) : zc_N (zm_w g 100 8 (u 0 8 + 1)) (zs_mk u v) := by
  have h2 := zc_Nw h (r := 100) (i := 8) (m := 0) (k := 8) rfl (u 0 8 + 1)
  intro r i m k hl
  rw [h2 r i m k hl]
  have hm := zc_lmr hl
  by_cases e : m = 0 ∧ k = 8
  · obtain ⟨rfl, rfl⟩ := e; rw [zm_ws]; rfl
  · rw [zm_wn _ _ (by omega)]
    unfold zs_mk
    rw [if_neg e, if_neg (by omega)]
/-- a seal has come -/
theorem zc_add {sh sh' : Nat → Option zw_Sh} {g g' u u' : zm_T} {n : Nat} (hR : zc_R sh g u) (hn : n = zn (u 0 8)) (h8 : zn (u' 0 8) = n + 1) (hN : zc_N g' u') (hu : ∀ r i : Nat, (r = 20 ∨ r = 22 ∨ r = 23 ∨ r = 24 ∨ r = 29 ∨ (r = 0 ∧ i = 28) ∨ (9 ≤ r ∧ r ≤ 18 ∧ i ≠ n)) → u' r i = u r i)
    (h107 : sh' 107 = some (.inr (3, 150, some (zc_sf (n + 1))))) (hs : ∀ r : Nat, r ≠ 107 → r ≠ 200 + 2 * n → r ≠ 201 + 2 * n → sh' r = sh r) (hg : ∀ r : Nat, (200 ≤ r ∨ r = 134 ∨ r = 136 ∨ r = 138 ∨ r = 140) → r ≠ 200 + 2 * n → r ≠ 201 + 2 * n → g' r = g r) (hg2 : ∀ j : Nat, j < 4 → g' (115 + j) 2 = g (115 + j) 2) (hsl : zc_sl sh' g' u' n) : zc_R sh' g' u' := by
  obtain ⟨h1, h2, h3, h4, h5, h6, h7, cf, h9, h10⟩ := hR
  have e28 : u' 0 28 = u 0 28 := hu 0 28 (by omega)
  refine ⟨fun q hq => ?_, hN, ?_, ?_, by rw [h8]; exact h107, ?_, ?_, cf, (hs 120 (by decide) (by omega) (by omega)).trans h9, ?_⟩
  · have := zc_sh200 q.1 (List.mem_map.mpr ⟨q, hq, rfl⟩)
    have h107q : q.1 ≠ 107 := fun e => (by decide : (107 : Nat) ∉ zc_shl.map Prod.fst) (e ▸ List.mem_map.mpr ⟨q, hq, rfl⟩)
    rw [hs q.1 h107q (by omega) (by omega)]
    exact h1 q hq
  · intro j hj hq
    rw [hu 20 _ (by omega)] at hq
    rw [hg2 j hj, hu 22 _ (by omega)]
    exact h3 j hj hq
  · intro j t hj ht hq
    rw [hu 23 _ (by omega)] at hq
    rw [hg _ (by omega) (by omega) (by omega), hu 24 _ (by omega)]
    exact h4 j t hj ht hq
  · intro i hi
    rw [h8] at hi
    by_cases e : i = n
    · subst e; exact hsl
    · have q := h6 i (by omega)
      unfold zc_sl at q ⊢
      rw [hu 9 i (by omega), hu 10 i (by omega), hu 11 i (by omega), hu 12 i (by omega), hu 13 i (by omega), hu 14 i (by omega), hu 15 i (by omega), hu 16 i (by omega), hu 17 i (by omega), hu 18 i (by omega), hg (200 + 2 * i) (by omega) (by omega) (by omega), hg (201 + 2 * i) (by omega) (by omega) (by omega), hs (200 + 2 * i) (by omega) (by omega) (by omega), hs (201 + 2 * i) (by omega) (by omega) (by omega)]
      exact q
  · intro r hr
    rw [h8] at hr
    rw [hs r (by omega) (by omega) (by omega)]
    exact h7 r (by omega)
  · intro j hj
    rw [e28] at hj
    rw [h10 j hj, hu 29 j (by omega)]
theorem zs_mku (u : zm_T) (v : Nat → Int32) : ∀ r i : Nat, (r = 20 ∨ r = 22 ∨ r = 23 ∨ r = 24 ∨ r = 29 ∨ (r = 0 ∧ i = 28) ∨ (9 ≤ r ∧ r ≤ 18 ∧ i ≠ zn (u 0 8))) → zs_mk u v r i = u r i := by
  intro r i h
  unfold zs_mk
  rw [if_neg (by omega), if_neg (by omega)]
theorem zs_mkn (u : zm_T) (v : Nat → Int32) {r : Nat} (h : 9 ≤ r ∧ r ≤ 18) : zs_mk u v r (zn (u 0 8)) = v r := by
  unfold zs_mk
  rw [if_neg (by omega), if_pos ⟨rfl, h.1, h.2⟩]
theorem zs_mkz {u : zm_T} (hI : 0 ≤ (u 0 8).toInt ∧ (u 0 8).toInt < 150) (v : Nat → Int32) : zn (zs_mk u v 0 8) = zn (u 0 8) + 1 := by
  rw [zs_mk8]
  have h := zi_add (u 0 8) 1 (by rw [show (1 : Int32).toInt = 1 from rfl]; omega)
  rw [show (1 : Int32).toInt = 1 from rfl] at h
  rw [zi_n, zi_n, h]; omega
/-- a request is opened -/
theorem zc_rqR {sh : Nat → Option zw_Sh} {g u : zm_T} (hR : zc_R sh g u) {j : Nat} (hj : j < 4) (t key : Int32) : zc_R sh (zm_w (zm_w (zm_w (zm_w g 100 11 (u 0 19 + 1)) (115 + j) 0 (u 0 19 + 1)) (115 + j) 1 t) (115 + j) 2 key) (zs_rq u (j + 2) t key) := by
  obtain ⟨h1, h2, h3, h4, h5, h6, h7, cf, h8, h9⟩ := hR
  have l0 : zc_lm (115 + j) 0 = some (20, j + 2) := by
    obtain rfl | rfl | rfl | rfl : j = 0 ∨ j = 1 ∨ j = 2 ∨ j = 3 := by omega
    all_goals simp [zc_lm]
  have l1 : zc_lm (115 + j) 1 = some (21, j + 2) := by
    obtain rfl | rfl | rfl | rfl : j = 0 ∨ j = 1 ∨ j = 2 ∨ j = 3 := by omega
    all_goals simp [zc_lm]
  have l2 : zc_lm (115 + j) 2 = none := by
    obtain rfl | rfl | rfl | rfl : j = 0 ∨ j = 1 ∨ j = 2 ∨ j = 3 := by omega
    all_goals simp [zc_lm]
  have hN := zc_Nm (zc_Nc (zc_Nw (zc_Nw (zc_Nw h2 (r := 100) (i := 11) (m := 0) (k := 19) rfl (u 0 19 + 1)) l0 (u 0 19 + 1)) l1 t) l2 key) (m := 22) (k := j + 2) (fun r i q => by have := zc_lmr q; omega) key
  have hu : ∀ r i : Nat, r ≠ 20 → r ≠ 21 → r ≠ 22 → (r ≠ 0 ∨ i ≠ 19) → zs_rq u (j + 2) t key r i = u r i := fun r i a b c d => by unfold zs_rq; rw [zm_wn _ _ (Or.inl c), zm_wn _ _ (Or.inl b), zm_wn _ _ (Or.inl a), zm_wn _ _ d]
  have hg : ∀ r : Nat, 133 ≤ r → zm_w (zm_w (zm_w (zm_w g 100 11 (u 0 19 + 1)) (115 + j) 0 (u 0 19 + 1)) (115 + j) 1 t) (115 + j) 2 key r = g r := fun r h => by rw [zm_wr (by omega), zm_wr (by omega), zm_wr (by omega), zm_wr (by omega)]
  refine ⟨h1, hN, ?_, ?_, by rw [hu 0 8 (by decide) (by decide) (by decide) (by omega)]; exact h5, ?_, by rw [hu 0 8 (by decide) (by decide) (by decide) (by omega)]; exact h7, cf, h8, ?_⟩
  · intro j' hj' hn
    by_cases e : j' = j
    · subst e
      rw [zm_ws]; unfold zs_rq; rw [zm_ws]
    · unfold zs_rq at hn ⊢
      rw [zm_wn _ _ (Or.inl (by decide)), zm_wn _ _ (Or.inl (by decide)), zm_wn _ _ (Or.inr (by omega)), zm_wn _ _ (Or.inl (by decide))] at hn
      rw [zm_wn _ _ (Or.inl (by omega)), zm_wn _ _ (Or.inl (by omega)), zm_wn _ _ (Or.inl (by omega)), zm_wn _ _ (Or.inl (by omega)), zm_wn _ _ (Or.inr (by omega)), zm_wn _ _ (Or.inl (by decide)), zm_wn _ _ (Or.inl (by decide)), zm_wn _ _ (Or.inl (by decide))]
      exact h3 j' hj' hn
  · intro j' t' hj' ht' hn
    rw [hu 23 _ (by decide) (by decide) (by decide) (by omega)] at hn
    rw [hg _ (by omega), hu 24 _ (by decide) (by decide) (by decide) (by omega)]
    exact h4 j' t' hj' ht' hn
  · intro i hi
    rw [hu 0 8 (by decide) (by decide) (by decide) (by omega)] at hi
    have q := h6 i hi
    unfold zc_sl at q ⊢
    rw [hu 9 i (by decide) (by decide) (by decide) (by omega), hu 10 i (by decide) (by decide) (by decide) (by omega), hu 11 i (by decide) (by decide) (by decide) (by omega), hu 12 i (by decide) (by decide) (by decide) (by omega), hu 13 i (by decide) (by decide) (by decide) (by omega), hu 14 i (by decide) (by decide) (by decide) (by omega), hu 15 i (by decide) (by decide) (by decide) (by omega), hu 16 i (by decide) (by decide) (by decide) (by omega), hu 17 i (by decide) (by decide) (by decide) (by omega), hu 18 i (by decide) (by decide) (by decide) (by omega), hg (200 + 2 * i) (by omega), hg (201 + 2 * i) (by omega)]
    exact q
  · intro i hi
    rw [hu 0 28 (by decide) (by decide) (by decide) (by omega)] at hi
    rw [h9 i hi, hu 29 i (by decide) (by decide) (by decide) (by omega)]

set_option maxHeartbeats 4000000 in
set_option maxRecDepth 100000 in
theorem c_X9_keep_5 (l : Launch) (Y : zw_Y) (N0 : Nat) (ad : Nat → Nat) (sh : Nat → Option zw_Sh) (g : zm_T) (hS : zc_S sh) (x8 : Int32) (hg8 : g 100 8 = x8) (hn : 0 ≤ x8.toInt ∧ x8.toInt < 150) (h107 : sh 107 = some (.inr (3, 150, some (zc_sf (zn x8))))) (hrs : sh (200 + 2 * zn x8) = some (.inl (5, [none, none, none]))) : zw_Met l Y N0 yX9_keep cX9_keep 3 (some .int) 0 0 0 0 ad sh g [.ref (ad 100), .ref (ad (200 + 2 * zn x8))] (fun v ad' sh' g' => v = some (.int x8) ∧ ad = ad' ∧ sh' = va_up sh 107 (some (.inr (3, 150, some (zc_sf (zn x8 + 1))))) ∧ g' = zm_w g 100 8 (x8 + 1)) := by
  refine zw_meth (by decide) (Nat.le_of_ble_eq_true rfl) ?_
  intro p e s m below meth c ls X hnm hl hW
  have hl : lv_has ls 3 [(0, .ref (ad 100)), (1, .ref (ad (200 + 2 * zn x8)))] := hl
  refine lv_aload_n X.1 X.2.1 dX9_keep_0 rfl (lv_at hl 0 rfl) ?_
  refine zr_get (r := 100) (v := .int x8) X hW fs_X9_45_8 dX9_keep_1 (zc_s100 hS) rfl rfl (congrArg Value.int hg8) ?_
  refine lv_istore_n (lv' := [(2, .int x8), (0, .ref (ad 100)), (1, .ref (ad (200 + 2 * zn x8)))]) X.1 X.2.1 dX9_keep_4 rfl hl (by decide) rfl (fun ls hl => ?_)
  refine lv_aload_n X.1 X.2.1 dX9_keep_5 rfl (lv_at hl 1 rfl) ?_
  refine zr_get (r := 100) (v := .ref (ad 107)) X hW fs_X9_41_8 dX9_keep_6 (zc_s100 hS) rfl rfl rfl ?_
  refine lv_iload_n X.1 X.2.1 dX9_keep_9 rfl (lv_at hl 0 rfl) ?_
  refine lv_aload_n X.1 X.2.1 dX9_keep_10 rfl (lv_at hl 2 rfl) ?_
  refine zr_aast (r := 107) (r2 := (200 + 2 * zn x8)) X hW dX9_keep_11 h107 rfl rfl hrs rfl rfl (Or.inr (by decide)) (zi_vp (by omega)) (fun H locs hW => ?_)
  obtain ⟨sh1, hsh1⟩ : ∃ z : Nat → Option zw_Sh, z = va_up sh 107 (some (.inr (3, 150, some (zc_sf (zn x8 + 1))))) := ⟨_, rfl⟩
  have hW : zw_St Y N0 ad sh1 g s H locs := by rw [hsh1, ← zc_sfs]; exact hW
  have hS : zc_S sh1 := by rw [hsh1]; exact zc_Sup (by decide) hS
  refine lv_aload_n X.1 X.2.1 dX9_keep_12 rfl (lv_at hl 1 rfl) ?_
  refine lv_dup X.1 X.2.1 dX9_keep_13 rfl ?_
  refine zr_get (r := 100) (v := .int x8) X hW fs_X9_45_8 dX9_keep_14 (zc_s100 hS) rfl rfl (congrArg Value.int hg8) ?_
  refine lv_iconst (v := 1) X.1 X.2.1 dX9_keep_17 (by decide) ?_
  refine lv_iadd X.1 X.2.1 dX9_keep_18 ?_
  refine zr_puti (r := 100) X hW fs_X9_45_8 dX9_keep_19 (zc_s100 hS) rfl rfl rfl rfl (fun H locs hW => ?_)
  obtain ⟨g_1, hg_1⟩ : ∃ z : zm_T, z = zm_w g 100 8 (x8 + 1) := ⟨_, rfl⟩
  have hW : zw_St Y N0 ad sh1 g_1 s H locs := by rw [hg_1]; exact hW
  refine lv_iload_n X.1 X.2.1 dX9_keep_22 rfl (lv_at hl 0 rfl) ?_
  exact zr_iret X hW dX9_keep_23 (Nat.le_refl _) (Nat.le_refl _) ⟨rfl, rfl, hsh1, by rw [hg_1]⟩

set_option maxHeartbeats 4000000 in
set_option maxRecDepth 100000 in
theorem c_X9_keep_6 (l : Launch) (Y : zw_Y) (N0 : Nat) (ad : Nat → Nat) (sh : Nat → Option zw_Sh) (g : zm_T) (hS : zc_S sh) (x8 : Int32) (hg8 : g 100 8 = x8) (hn : 0 ≤ x8.toInt ∧ x8.toInt < 150) (h107 : sh 107 = some (.inr (3, 150, some (zc_sf (zn x8))))) (hrs : sh (200 + 2 * zn x8) = some (.inl (6, [none, none, none, none, none, none]))) : zw_Met l Y N0 yX9_keep cX9_keep 3 (some .int) 0 0 0 0 ad sh g [.ref (ad 100), .ref (ad (200 + 2 * zn x8))] (fun v ad' sh' g' => v = some (.int x8) ∧ ad = ad' ∧ sh' = va_up sh 107 (some (.inr (3, 150, some (zc_sf (zn x8 + 1))))) ∧ g' = zm_w g 100 8 (x8 + 1)) := by
  refine zw_meth (by decide) (Nat.le_of_ble_eq_true rfl) ?_
  intro p e s m below meth c ls X hnm hl hW
  have hl : lv_has ls 3 [(0, .ref (ad 100)), (1, .ref (ad (200 + 2 * zn x8)))] := hl
  refine lv_aload_n X.1 X.2.1 dX9_keep_0 rfl (lv_at hl 0 rfl) ?_
  refine zr_get (r := 100) (v := .int x8) X hW fs_X9_45_8 dX9_keep_1 (zc_s100 hS) rfl rfl (congrArg Value.int hg8) ?_
  refine lv_istore_n (lv' := [(2, .int x8), (0, .ref (ad 100)), (1, .ref (ad (200 + 2 * zn x8)))]) X.1 X.2.1 dX9_keep_4 rfl hl (by decide) rfl (fun ls hl => ?_)
  refine lv_aload_n X.1 X.2.1 dX9_keep_5 rfl (lv_at hl 1 rfl) ?_
  refine zr_get (r := 100) (v := .ref (ad 107)) X hW fs_X9_41_8 dX9_keep_6 (zc_s100 hS) rfl rfl rfl ?_
  refine lv_iload_n X.1 X.2.1 dX9_keep_9 rfl (lv_at hl 0 rfl) ?_
  refine lv_aload_n X.1 X.2.1 dX9_keep_10 rfl (lv_at hl 2 rfl) ?_
  refine zr_aast (r := 107) (r2 := (200 + 2 * zn x8)) X hW dX9_keep_11 h107 rfl rfl hrs rfl rfl (Or.inr (by decide)) (zi_vp (by omega)) (fun H locs hW => ?_)
  obtain ⟨sh1, hsh1⟩ : ∃ z : Nat → Option zw_Sh, z = va_up sh 107 (some (.inr (3, 150, some (zc_sf (zn x8 + 1))))) := ⟨_, rfl⟩
  have hW : zw_St Y N0 ad sh1 g s H locs := by rw [hsh1, ← zc_sfs]; exact hW
  have hS : zc_S sh1 := by rw [hsh1]; exact zc_Sup (by decide) hS
  refine lv_aload_n X.1 X.2.1 dX9_keep_12 rfl (lv_at hl 1 rfl) ?_
  refine lv_dup X.1 X.2.1 dX9_keep_13 rfl ?_
  refine zr_get (r := 100) (v := .int x8) X hW fs_X9_45_8 dX9_keep_14 (zc_s100 hS) rfl rfl (congrArg Value.int hg8) ?_
  refine lv_iconst (v := 1) X.1 X.2.1 dX9_keep_17 (by decide) ?_
  refine lv_iadd X.1 X.2.1 dX9_keep_18 ?_
  refine zr_puti (r := 100) X hW fs_X9_45_8 dX9_keep_19 (zc_s100 hS) rfl rfl rfl rfl (fun H locs hW => ?_)
  obtain ⟨g_1, hg_1⟩ : ∃ z : zm_T, z = zm_w g 100 8 (x8 + 1) := ⟨_, rfl⟩
  have hW : zw_St Y N0 ad sh1 g_1 s H locs := by rw [hg_1]; exact hW
  refine lv_iload_n X.1 X.2.1 dX9_keep_22 rfl (lv_at hl 0 rfl) ?_
  exact zr_iret X hW dX9_keep_23 (Nat.le_refl _) (Nat.le_refl _) ⟨rfl, rfl, hsh1, by rw [hg_1]⟩

set_option maxHeartbeats 4000000 in
set_option maxRecDepth 100000 in
theorem c_X9_keep_4 (l : Launch) (Y : zw_Y) (N0 : Nat) (ad : Nat → Nat) (sh : Nat → Option zw_Sh) (g : zm_T) (hS : zc_S sh) (x8 : Int32) (hg8 : g 100 8 = x8) (hn : 0 ≤ x8.toInt ∧ x8.toInt < 150) (h107 : sh 107 = some (.inr (3, 150, some (zc_sf (zn x8))))) (hrs : sh (200 + 2 * zn x8) = some (.inl (4, [none, none, none, none, none]))) : zw_Met l Y N0 yX9_keep cX9_keep 3 (some .int) 0 0 0 0 ad sh g [.ref (ad 100), .ref (ad (200 + 2 * zn x8))] (fun v ad' sh' g' => v = some (.int x8) ∧ ad = ad' ∧ sh' = va_up sh 107 (some (.inr (3, 150, some (zc_sf (zn x8 + 1))))) ∧ g' = zm_w g 100 8 (x8 + 1)) := by
  refine zw_meth (by decide) (Nat.le_of_ble_eq_true rfl) ?_
  intro p e s m below meth c ls X hnm hl hW
  have hl : lv_has ls 3 [(0, .ref (ad 100)), (1, .ref (ad (200 + 2 * zn x8)))] := hl
  refine lv_aload_n X.1 X.2.1 dX9_keep_0 rfl (lv_at hl 0 rfl) ?_
  refine zr_get (r := 100) (v := .int x8) X hW fs_X9_45_8 dX9_keep_1 (zc_s100 hS) rfl rfl (congrArg Value.int hg8) ?_
  refine lv_istore_n (lv' := [(2, .int x8), (0, .ref (ad 100)), (1, .ref (ad (200 + 2 * zn x8)))]) X.1 X.2.1 dX9_keep_4 rfl hl (by decide) rfl (fun ls hl => ?_)
  refine lv_aload_n X.1 X.2.1 dX9_keep_5 rfl (lv_at hl 1 rfl) ?_
  refine zr_get (r := 100) (v := .ref (ad 107)) X hW fs_X9_41_8 dX9_keep_6 (zc_s100 hS) rfl rfl rfl ?_
  refine lv_iload_n X.1 X.2.1 dX9_keep_9 rfl (lv_at hl 0 rfl) ?_
  refine lv_aload_n X.1 X.2.1 dX9_keep_10 rfl (lv_at hl 2 rfl) ?_
  refine zr_aast (r := 107) (r2 := (200 + 2 * zn x8)) X hW dX9_keep_11 h107 rfl rfl hrs rfl rfl (Or.inr (by decide)) (zi_vp (by omega)) (fun H locs hW => ?_)
  obtain ⟨sh1, hsh1⟩ : ∃ z : Nat → Option zw_Sh, z = va_up sh 107 (some (.inr (3, 150, some (zc_sf (zn x8 + 1))))) := ⟨_, rfl⟩
  have hW : zw_St Y N0 ad sh1 g s H locs := by rw [hsh1, ← zc_sfs]; exact hW
  have hS : zc_S sh1 := by rw [hsh1]; exact zc_Sup (by decide) hS
  refine lv_aload_n X.1 X.2.1 dX9_keep_12 rfl (lv_at hl 1 rfl) ?_
  refine lv_dup X.1 X.2.1 dX9_keep_13 rfl ?_
  refine zr_get (r := 100) (v := .int x8) X hW fs_X9_45_8 dX9_keep_14 (zc_s100 hS) rfl rfl (congrArg Value.int hg8) ?_
  refine lv_iconst (v := 1) X.1 X.2.1 dX9_keep_17 (by decide) ?_
  refine lv_iadd X.1 X.2.1 dX9_keep_18 ?_
  refine zr_puti (r := 100) X hW fs_X9_45_8 dX9_keep_19 (zc_s100 hS) rfl rfl rfl rfl (fun H locs hW => ?_)
  obtain ⟨g_1, hg_1⟩ : ∃ z : zm_T, z = zm_w g 100 8 (x8 + 1) := ⟨_, rfl⟩
  have hW : zw_St Y N0 ad sh1 g_1 s H locs := by rw [hg_1]; exact hW
  refine lv_iload_n X.1 X.2.1 dX9_keep_22 rfl (lv_at hl 0 rfl) ?_
  exact zr_iret X hW dX9_keep_23 (Nat.le_refl _) (Nat.le_refl _) ⟨rfl, rfl, hsh1, by rw [hg_1]⟩

set_option maxHeartbeats 4000000 in
set_option maxRecDepth 100000 in
theorem c_X9_keep_1 (l : Launch) (Y : zw_Y) (N0 : Nat) (ad : Nat → Nat) (sh : Nat → Option zw_Sh) (g : zm_T) (hS : zc_S sh) (x8 : Int32) (hg8 : g 100 8 = x8) (hn : 0 ≤ x8.toInt ∧ x8.toInt < 150) (h107 : sh 107 = some (.inr (3, 150, some (zc_sf (zn x8))))) (hrs : sh (200 + 2 * zn x8) = some (.inl (1, [none, none, none, none, some (some (201 + 2 * zn x8))]))) : zw_Met l Y N0 yX9_keep cX9_keep 3 (some .int) 0 0 0 0 ad sh g [.ref (ad 100), .ref (ad (200 + 2 * zn x8))] (fun v ad' sh' g' => v = some (.int x8) ∧ ad = ad' ∧ sh' = va_up sh 107 (some (.inr (3, 150, some (zc_sf (zn x8 + 1))))) ∧ g' = zm_w g 100 8 (x8 + 1)) := by
  refine zw_meth (by decide) (Nat.le_of_ble_eq_true rfl) ?_
  intro p e s m below meth c ls X hnm hl hW
  have hl : lv_has ls 3 [(0, .ref (ad 100)), (1, .ref (ad (200 + 2 * zn x8)))] := hl
  refine lv_aload_n X.1 X.2.1 dX9_keep_0 rfl (lv_at hl 0 rfl) ?_
  refine zr_get (r := 100) (v := .int x8) X hW fs_X9_45_8 dX9_keep_1 (zc_s100 hS) rfl rfl (congrArg Value.int hg8) ?_
  refine lv_istore_n (lv' := [(2, .int x8), (0, .ref (ad 100)), (1, .ref (ad (200 + 2 * zn x8)))]) X.1 X.2.1 dX9_keep_4 rfl hl (by decide) rfl (fun ls hl => ?_)
  refine lv_aload_n X.1 X.2.1 dX9_keep_5 rfl (lv_at hl 1 rfl) ?_
  refine zr_get (r := 100) (v := .ref (ad 107)) X hW fs_X9_41_8 dX9_keep_6 (zc_s100 hS) rfl rfl rfl ?_
  refine lv_iload_n X.1 X.2.1 dX9_keep_9 rfl (lv_at hl 0 rfl) ?_
  refine lv_aload_n X.1 X.2.1 dX9_keep_10 rfl (lv_at hl 2 rfl) ?_
  refine zr_aast (r := 107) (r2 := (200 + 2 * zn x8)) X hW dX9_keep_11 h107 rfl rfl hrs rfl rfl (Or.inr (by decide)) (zi_vp (by omega)) (fun H locs hW => ?_)
  obtain ⟨sh1, hsh1⟩ : ∃ z : Nat → Option zw_Sh, z = va_up sh 107 (some (.inr (3, 150, some (zc_sf (zn x8 + 1))))) := ⟨_, rfl⟩
  have hW : zw_St Y N0 ad sh1 g s H locs := by rw [hsh1, ← zc_sfs]; exact hW
  have hS : zc_S sh1 := by rw [hsh1]; exact zc_Sup (by decide) hS
  refine lv_aload_n X.1 X.2.1 dX9_keep_12 rfl (lv_at hl 1 rfl) ?_
  refine lv_dup X.1 X.2.1 dX9_keep_13 rfl ?_
  refine zr_get (r := 100) (v := .int x8) X hW fs_X9_45_8 dX9_keep_14 (zc_s100 hS) rfl rfl (congrArg Value.int hg8) ?_
  refine lv_iconst (v := 1) X.1 X.2.1 dX9_keep_17 (by decide) ?_
  refine lv_iadd X.1 X.2.1 dX9_keep_18 ?_
  refine zr_puti (r := 100) X hW fs_X9_45_8 dX9_keep_19 (zc_s100 hS) rfl rfl rfl rfl (fun H locs hW => ?_)
  obtain ⟨g_1, hg_1⟩ : ∃ z : zm_T, z = zm_w g 100 8 (x8 + 1) := ⟨_, rfl⟩
  have hW : zw_St Y N0 ad sh1 g_1 s H locs := by rw [hg_1]; exact hW
  refine lv_iload_n X.1 X.2.1 dX9_keep_22 rfl (lv_at hl 0 rfl) ?_
  exact zr_iret X hW dX9_keep_23 (Nat.le_refl _) (Nat.le_refl _) ⟨rfl, rfl, hsh1, by rw [hg_1]⟩
