theorem zs_mkw2 (u : zm_T) (v w : Nat → Int32) (x : Int32) : zs_mk (zs_mk (zm_w u 0 2 x) v) w = zm_w (zs_mk (zs_mk u v) w) 0 2 x := by
  have e : ∀ (u : zm_T) (v : Nat → Int32), zs_mk (zm_w u 0 2 x) v = zm_w (zs_mk u v) 0 2 x := fun u v => by
    funext r i
    by_cases h : r = 0 ∧ i = 2
    · obtain ⟨rfl, rfl⟩ := h
      rw [zm_ws]; unfold zs_mk; rw [if_neg (by omega), if_neg (by omega), zm_ws]
    · rw [zm_wn _ _ (by omega)]
      unfold zs_mk
      rw [zm_wn _ _ (Or.inr (by decide)), zm_wn _ _ (by omega)]
  rw [e, e]
theorem zc_frt {ad ad1 ad2 : Nat → Nat} {sh sh1 sh2 : Nat → Option zw_Sh} {g g1 g2 : zm_T} (h1 : zc_fr ad sh g ad1 sh1 g1) (h2 : zc_fr ad1 sh1 g1 ad2 sh2 g2) : zc_fr ad sh g ad2 sh2 g2 := ⟨fun r hr => (h2.1 r hr).trans (h1.1 r hr), fun r hr => ⟨(h2.2 r hr).1.trans (h1.2 r hr).1, (h2.2 r hr).2.trans (h1.2 r hr).2⟩⟩

set_option maxHeartbeats 8000000 in
set_option maxRecDepth 100000 in
theorem c_mtp_B {p : Program} {e : Env} {s : State} {m : MethodId} {below : List Frame} {meth : Method} {c : Code} (l : Launch) (Y : zw_Y) (N0 : Nat) (ad : Nat → Nat) (sh : Nat → Option zw_Sh) (g u : zm_T) (hR : zc_R sh g u) (a0 : Nat) (had : ad 100 = a0) (cn t nc pk en la sk num : Int32) (h8 : 0 ≤ (u 0 8).toInt ∧ (u 0 8).toInt < 150) (post : zw_Po) (hpost : ∀ ad' sh' g', zc_R sh' g' (zs_mk u (zs_v 3 pk (-1) sk nc t en 0 0 0)) → zc_fr ad sh g ad' sh' g' → post (some (.int num)) ad' sh' g') (X : zw_X p m meth c cX9_makeTicketAndPart 9 (some .int) s ([.ref (a0), .int cn, .int t, .int nc, .int pk, .int en, .int la] : List Value).toArray yX9_makeTicketAndPart.cls Y) (hnm : meth.name = yX9_makeTicketAndPart.name) (H : Heap) (locs : List Loc) (ls : Array Slot) (hW : zw_St Y N0 ad sh g s H locs) (hl : lv_has ls 9 [(8, .int num), (7, .int sk), (0, .ref (a0)), (1, .int cn), (2, .int t), (3, .int nc), (4, .int pk), (5, .int en), (6, .int la)]) : W p l e ({ frames := 3, cells := 2, slots := 11, locals := 67 } : Room) s m ([.ref (a0), .int cn, .int t, .int nc, .int pk, .int en, .int la] : List Value).toArray below meth c H locs 1 6 (MQ below (zw_Q Y N0 post) ([.ref (a0), .int cn, .int t, .int nc, .int pk, .int en, .int la] : List Value).toArray s 2 11 (fun q => N0 ≤ q)) (F0 m 41 ls []) := by
  have hS := hR.1
  have hN0 := hR.2.1
  have hN := hR.2.1
  refine lv_aload_n X.1 X.2.1 dX9_makeTicketAndPart_41 rfl (lv_at hl 2 rfl) ?_
  refine zr_new (ss := [none, none, none, none, none]) X hW cs_X4 ns_X9_167 dX9_makeTicketAndPart_42 ds_X4 (by intro r h; simp at h) (200 + 2 * zn (u 0 8)) (hR.2.2.2.2.2.2.1 (200 + 2 * zn (u 0 8)) (by omega)) (Nat.le_of_ble_eq_true rfl) (Nat.le_of_ble_eq_true rfl) (fun ad_1 H had_1 hW => ?_)
  obtain ⟨sh_2, hsh_2⟩ : ∃ z : Nat → Option zw_Sh, z = va_up sh (200 + 2 * zn (u 0 8)) (some (.inl (4, [none, none, none, none, none]))) := ⟨_, rfl⟩
  obtain ⟨g_3, hg_3⟩ : ∃ z : zm_T, z = va_up g (200 + 2 * zn (u 0 8)) (fun _ => 0) := ⟨_, rfl⟩
  rw [← hsh_2, ← hg_3] at hW
  have hS : zc_S sh_2 := by rw [hsh_2]; exact zc_S200 (by omega) hS
  have hN : zc_N g_3 u := by rw [hg_3]; exact zc_Nv hN (by omega)
  refine lv_dup X.1 X.2.1 dX9_makeTicketAndPart_45 rfl ?_
  refine lv_iload X.1 X.2.1 dX9_makeTicketAndPart_46 (lv_at hl 6 rfl) ?_
  refine lv_iload X.1 X.2.1 dX9_makeTicketAndPart_48 (lv_at hl 1 rfl) ?_
  refine lv_iload_n X.1 X.2.1 dX9_makeTicketAndPart_50 rfl (lv_at hl 5 rfl) ?_
  refine lv_iload_n X.1 X.2.1 dX9_makeTicketAndPart_51 rfl (lv_at hl 4 rfl) ?_
  refine lv_iload X.1 X.2.1 dX9_makeTicketAndPart_52 (lv_at hl 7 rfl) ?_
  refine zr_callI (As := [.int pk, .int sk, .int nc, .int t, .int en]) (rest := [.ref (ad_1 (200 + 2 * zn (u 0 8))), .ref (a0)]) (b := ad_1 (200 + 2 * zn (u 0 8))) X hW hl.1 md_X4_init ms_X9_316 rfl dX9_makeTicketAndPart_54 rfl rfl (Nat.le_of_ble_eq_true rfl) ⟨Nat.le_of_ble_eq_true rfl, Nat.le_of_ble_eq_true rfl⟩ ⟨Nat.le_of_ble_eq_true rfl, Nat.le_of_ble_eq_true rfl⟩ (c_X4_init l Y N0 ad_1 sh_2 g_3 ((200 + 2 * zn (u 0 8))) (show sh_2 (200 + 2 * zn (u 0 8)) = some (.inl (4, [none, none, none, none, none])) from (by rw [hsh_2]; exact va_up_self _ _ _)) pk sk nc t en) (fun v9 ad9 sh9 g9 H locs hp hW => ?_)
  obtain ⟨rfl, rfl, rfl, rfl⟩ := hp
  obtain ⟨g_9, hg_9⟩ : ∃ z : zm_T, z = zm_w g_3 (200 + 2 * zn (u 0 8)) 0 pk := ⟨_, rfl⟩
  obtain ⟨g_10, hg_10⟩ : ∃ z : zm_T, z = zm_w g_9 (200 + 2 * zn (u 0 8)) 1 sk := ⟨_, rfl⟩
  obtain ⟨g_11, hg_11⟩ : ∃ z : zm_T, z = zm_w g_10 (200 + 2 * zn (u 0 8)) 2 nc := ⟨_, rfl⟩
  obtain ⟨g_12, hg_12⟩ : ∃ z : zm_T, z = zm_w g_11 (200 + 2 * zn (u 0 8)) 3 t := ⟨_, rfl⟩
  obtain ⟨g_13, hg_13⟩ : ∃ z : zm_T, z = zm_w g_12 (200 + 2 * zn (u 0 8)) 4 en := ⟨_, rfl⟩
  rw [← hg_9, ← hg_10, ← hg_11, ← hg_12, ← hg_13] at hW
  have hN : zc_N g_9 u := by rw [hg_9]; exact zc_Nc hN (zc_lm200 (by omega)) _
  have hN : zc_N g_10 u := by rw [hg_10]; exact zc_Nc hN (zc_lm200 (by omega)) _
  have hN : zc_N g_11 u := by rw [hg_11]; exact zc_Nc hN (zc_lm200 (by omega)) _
  have hN : zc_N g_12 u := by rw [hg_12]; exact zc_Nc hN (zc_lm200 (by omega)) _
  have hN : zc_N g_13 u := by rw [hg_13]; exact zc_Nc hN (zc_lm200 (by omega)) _
  refine zr_callV (As := [.ref (ad_1 (200 + 2 * zn (u 0 8)))]) (rest := []) X hW hl.1 md_X9_keep ms_X9_130 dX9_makeTicketAndPart_57 (zc_s100 hS) rfl rfl rfl (by rw [((had_1 100 (by omega)).trans had)] <;> rfl) (Nat.le_of_ble_eq_true rfl) ⟨Nat.le_of_ble_eq_true rfl, Nat.le_of_ble_eq_true rfl⟩ ⟨Nat.le_of_ble_eq_true rfl, Nat.le_of_ble_eq_true rfl⟩ (c_X9_keep_4 l Y N0 ad_1 sh_2 g_13 hS (u 0 8) ((show g_13 100 8 = g_12 100 8 from (by rw [hg_13]; exact zm_wn _ _ (Or.inl (by omega)))).trans ((show g_12 100 8 = g_11 100 8 from (by rw [hg_12]; exact zm_wn _ _ (Or.inl (by omega)))).trans ((show g_11 100 8 = g_10 100 8 from (by rw [hg_11]; exact zm_wn _ _ (Or.inl (by omega)))).trans ((show g_10 100 8 = g_9 100 8 from (by rw [hg_10]; exact zm_wn _ _ (Or.inl (by omega)))).trans ((show g_9 100 8 = g_3 100 8 from (by rw [hg_9]; exact zm_wn _ _ (Or.inl (by omega)))).trans ((show g_3 100 8 = g 100 8 from (by rw [hg_3, va_up_ne _ _ (by omega)])).trans (hN0 _ _ _ _ rfl))))))) h8 (show sh_2 107 = some (.inr (3, 150, some (zc_sf (zn (u 0 8))))) from (by rw [hsh_2]; exact (va_up_ne _ _ (by omega)).trans hR.2.2.2.2.1)) (show sh_2 (200 + 2 * zn (u 0 8)) = some (.inl (4, [none, none, none, none, none])) from (by rw [hsh_2]; exact va_up_self _ _ _))) (fun v9 ad9 sh9 g9 H locs hp hW => ?_)
  obtain ⟨rfl, rfl, rfl, rfl⟩ := hp
  obtain ⟨sh_14, hsh_14⟩ : ∃ z : Nat → Option zw_Sh, z = va_up sh_2 107 (some (.inr (3, 150, some (zc_sf (zn (u 0 8) + 1))))) := ⟨_, rfl⟩
  obtain ⟨g_15, hg_15⟩ : ∃ z : zm_T, z = zm_w g_13 100 8 (u 0 8 + 1) := ⟨_, rfl⟩
  rw [← hsh_14, ← hg_15] at hW
  refine lv_pop X.1 X.2.1 dX9_makeTicketAndPart_60 rfl ?_
  refine lv_iload X.1 X.2.1 dX9_makeTicketAndPart_61 (lv_at hl 0 rfl) ?_
  have hN9 : zc_N g_15 (zs_mk u (zs_v 3 pk (-1) sk nc t en 0 0 0)) := by
    have e : u 0 8 = u 0 8 := by rfl
    rw [hg_15, ← e]; exact zc_Nmk hN _
  have e8 : zn (u 0 8) = zn (u 0 8) := by rfl
  have hu9 : ∀ r i : Nat, (r = 20 ∨ r = 22 ∨ r = 23 ∨ r = 24 ∨ r = 29 ∨ (r = 0 ∧ i = 28) ∨ (9 ≤ r ∧ r ≤ 18 ∧ i ≠ zn (u 0 8))) → zs_mk u (zs_v 3 pk (-1) sk nc t en 0 0 0) r i = u r i := fun r i h => by
    rw [zs_mku u _ r i (by rw [e8]; exact h)]
  have hvv : ∀ r : Nat, 9 ≤ r ∧ r ≤ 18 → zs_mk u (zs_v 3 pk (-1) sk nc t en 0 0 0) r (zn (u 0 8)) = (zs_v 3 pk (-1) sk nc t en 0 0 0) r := fun r h => by rw [← e8]; exact zs_mkn u _ h
  have hsl9 : zc_sl sh_14 g_15 (zs_mk u (zs_v 3 pk (-1) sk nc t en 0 0 0)) (zn (u 0 8)) := by
    unfold zc_sl
    rw [hvv 9 (by decide), hvv 10 (by decide), hvv 11 (by decide), hvv 12 (by decide), hvv 13 (by decide), hvv 14 (by decide), hvv 15 (by decide), hvv 16 (by decide), hvv 17 (by decide), hvv 18 (by decide)]
    exact ⟨fun h => absurd (show (3 : Int32).toInt = 1 from h) (by decide), fun h => absurd (show (3 : Int32).toInt = 2 from h) (by decide), fun _ => ⟨(show sh_14 (200 + 2 * zn (u 0 8)) = some (.inl (4, [none, none, none, none, none])) from (by rw [hsh_14]; exact (va_up_ne _ _ (by omega)).trans (show sh_2 (200 + 2 * zn (u 0 8)) = some (.inl (4, [none, none, none, none, none])) from (by rw [hsh_2]; exact va_up_self _ _ _)))), ((show g_15 (200 + 2 * zn (u 0 8)) 0 = g_13 (200 + 2 * zn (u 0 8)) 0 from (by rw [hg_15, zm_wn _ _ (Or.inl (by omega))])).trans ((show g_13 (200 + 2 * zn (u 0 8)) 0 = g_12 (200 + 2 * zn (u 0 8)) 0 from (by rw [hg_13]; exact zm_wn _ _ (Or.inr (by decide)))).trans ((show g_12 (200 + 2 * zn (u 0 8)) 0 = g_11 (200 + 2 * zn (u 0 8)) 0 from (by rw [hg_12]; exact zm_wn _ _ (Or.inr (by decide)))).trans ((show g_11 (200 + 2 * zn (u 0 8)) 0 = g_10 (200 + 2 * zn (u 0 8)) 0 from (by rw [hg_11]; exact zm_wn _ _ (Or.inr (by decide)))).trans ((show g_10 (200 + 2 * zn (u 0 8)) 0 = g_9 (200 + 2 * zn (u 0 8)) 0 from (by rw [hg_10]; exact zm_wn _ _ (Or.inr (by decide)))).trans (show g_9 (200 + 2 * zn (u 0 8)) 0 = pk from (by rw [hg_9]; exact zm_ws _ _ _ _))))))), ((show g_15 (200 + 2 * zn (u 0 8)) 1 = g_13 (200 + 2 * zn (u 0 8)) 1 from (by rw [hg_15, zm_wn _ _ (Or.inl (by omega))])).trans ((show g_13 (200 + 2 * zn (u 0 8)) 1 = g_12 (200 + 2 * zn (u 0 8)) 1 from (by rw [hg_13]; exact zm_wn _ _ (Or.inr (by decide)))).trans ((show g_12 (200 + 2 * zn (u 0 8)) 1 = g_11 (200 + 2 * zn (u 0 8)) 1 from (by rw [hg_12]; exact zm_wn _ _ (Or.inr (by decide)))).trans ((show g_11 (200 + 2 * zn (u 0 8)) 1 = g_10 (200 + 2 * zn (u 0 8)) 1 from (by rw [hg_11]; exact zm_wn _ _ (Or.inr (by decide)))).trans (show g_10 (200 + 2 * zn (u 0 8)) 1 = sk from (by rw [hg_10]; exact zm_ws _ _ _ _)))))), ((show g_15 (200 + 2 * zn (u 0 8)) 2 = g_13 (200 + 2 * zn (u 0 8)) 2 from (by rw [hg_15, zm_wn _ _ (Or.inl (by omega))])).trans ((show g_13 (200 + 2 * zn (u 0 8)) 2 = g_12 (200 + 2 * zn (u 0 8)) 2 from (by rw [hg_13]; exact zm_wn _ _ (Or.inr (by decide)))).trans ((show g_12 (200 + 2 * zn (u 0 8)) 2 = g_11 (200 + 2 * zn (u 0 8)) 2 from (by rw [hg_12]; exact zm_wn _ _ (Or.inr (by decide)))).trans (show g_11 (200 + 2 * zn (u 0 8)) 2 = nc from (by rw [hg_11]; exact zm_ws _ _ _ _))))), ((show g_15 (200 + 2 * zn (u 0 8)) 3 = g_13 (200 + 2 * zn (u 0 8)) 3 from (by rw [hg_15, zm_wn _ _ (Or.inl (by omega))])).trans ((show g_13 (200 + 2 * zn (u 0 8)) 3 = g_12 (200 + 2 * zn (u 0 8)) 3 from (by rw [hg_13]; exact zm_wn _ _ (Or.inr (by decide)))).trans (show g_12 (200 + 2 * zn (u 0 8)) 3 = t from (by rw [hg_12]; exact zm_ws _ _ _ _)))), ((show g_15 (200 + 2 * zn (u 0 8)) 4 = g_13 (200 + 2 * zn (u 0 8)) 4 from (by rw [hg_15, zm_wn _ _ (Or.inl (by omega))])).trans (show g_13 (200 + 2 * zn (u 0 8)) 4 = en from (by rw [hg_13]; exact zm_ws _ _ _ _)))⟩, fun h => absurd (show (3 : Int32).toInt = 4 from h) (by decide)⟩
  have hz9 : zn (zs_mk u (zs_v 3 pk (-1) sk nc t en 0 0 0) 0 8) = zn (u 0 8) + 1 := by have q9 := zs_mkz (u := u) (by exact h8) (zs_v 3 pk (-1) sk nc t en 0 0 0); rw [q9, e8]
  have hR9 : zc_R sh_14 g_15 (zs_mk u (zs_v 3 pk (-1) sk nc t en 0 0 0)) := zc_add (n := (zn (u 0 8))) hR rfl hz9 hN9 hu9 (show sh_14 107 = some (.inr (3, 150, some (zc_sf (zn (u 0 8) + 1)))) from (by rw [hsh_14]; exact va_up_self _ _ _)) (fun r h1 h2 h3 => by rw [hsh_14, va_up_ne _ _ (by omega), hsh_2, va_up_ne _ _ (by omega)]) (fun r h1 h2 h3 => by rw [hg_15, zm_wr (by omega), hg_13, zm_wr (by omega), hg_12, zm_wr (by omega), hg_11, zm_wr (by omega), hg_10, zm_wr (by omega), hg_9, zm_wr (by omega), hg_3, va_up_ne _ _ (by omega)]) (fun j hj => by rw [hg_15, zm_wn _ _ (by omega), hg_13, zm_wn _ _ (by omega), hg_12, zm_wn _ _ (by omega), hg_11, zm_wn _ _ (by omega), hg_10, zm_wn _ _ (by omega), hg_9, zm_wn _ _ (by omega), hg_3, va_up_ne _ _ (by omega)]) hsl9
  have hf9 : zc_fr ad sh g ad_1 sh_14 g_15 := ⟨fun r hr => had_1 r (by omega), fun r hr => ⟨by rw [hsh_14, va_up_ne _ _ (by omega), hsh_2, va_up_ne _ _ (by omega)], by rw [hg_15, zm_wr (by omega), hg_13, zm_wr (by omega), hg_12, zm_wr (by omega), hg_11, zm_wr (by omega), hg_10, zm_wr (by omega), hg_9, zm_wr (by omega), hg_3, va_up_ne _ _ (by omega)]⟩⟩
  exact zr_iret X hW dX9_makeTicketAndPart_63 (Nat.le_of_ble_eq_true rfl) (Nat.le_of_ble_eq_true rfl) (hpost _ _ _ hR9 hf9)

set_option maxHeartbeats 8000000 in
set_option maxRecDepth 100000 in
theorem c_mtp_A {p : Program} {e : Env} {s : State} {m : MethodId} {below : List Frame} {meth : Method} {c : Code} (l : Launch) (Y : zw_Y) (N0 : Nat) (ad : Nat → Nat) (sh : Nat → Option zw_Sh) (g u : zm_T) (hR : zc_R sh g u) (a0 : Nat) (had : ad 100 = a0) (cn t nc pk en la sk : Int32) (h8a : 0 ≤ (u 0 8).toInt ∧ (u 0 8).toInt ≤ 148) (ht : 0 ≤ t.toInt ∧ t.toInt ≤ 1) (post : zw_Po) (hpost : ∀ ad' sh' g', zc_R sh' g' (zs_mk (zs_mk u (zs_v 2 (u 5 (zn t)) cn sk (u 1 0) en la 0 0 0)) (zs_v 3 pk (-1) sk nc t en 0 0 0)) → zc_fr ad sh g ad' sh' g' → post (some (.int (u 0 8))) ad' sh' g') (X : zw_X p m meth c cX9_makeTicketAndPart 9 (some .int) s ([.ref (a0), .int cn, .int t, .int nc, .int pk, .int en, .int la] : List Value).toArray yX9_makeTicketAndPart.cls Y) (hnm : meth.name = yX9_makeTicketAndPart.name) (H : Heap) (locs : List Loc) (ls : Array Slot) (hW : zw_St Y N0 ad sh g s H locs) (hl : lv_has ls 9 [(7, .int sk), (0, .ref (a0)), (1, .int cn), (2, .int t), (3, .int nc), (4, .int pk), (5, .int en), (6, .int la)]) : W p l e ({ frames := 3, cells := 2, slots := 11, locals := 67 } : Room) s m ([.ref (a0), .int cn, .int t, .int nc, .int pk, .int en, .int la] : List Value).toArray below meth c H locs 0 0 (MQ below (zw_Q Y N0 post) ([.ref (a0), .int cn, .int t, .int nc, .int pk, .int en, .int la] : List Value).toArray s 2 11 (fun q => N0 ≤ q)) (F0 m 6 ls []) := by
  have hS := hR.1
  have hN0 := hR.2.1
  have hN := hR.2.1
  have h8 : 0 ≤ (u 0 8).toInt ∧ (u 0 8).toInt < 150 := ⟨h8a.1, by omega⟩
  refine lv_aload_n X.1 X.2.1 dX9_makeTicketAndPart_6 rfl (lv_at hl 1 rfl) ?_
  refine zr_new (ss := [none, none, none, none, none, none]) X hW cs_X7 ns_X9_221 dX9_makeTicketAndPart_7 ds_X7 (by intro r h; simp at h) (200 + 2 * zn (u 0 8)) (hR.2.2.2.2.2.2.1 (200 + 2 * zn (u 0 8)) (by omega)) (Nat.le_of_ble_eq_true rfl) (Nat.le_of_ble_eq_true rfl) (fun ad_1 H had_1 hW => ?_)
  obtain ⟨sh_2, hsh_2⟩ : ∃ z : Nat → Option zw_Sh, z = va_up sh (200 + 2 * zn (u 0 8)) (some (.inl (6, [none, none, none, none, none, none]))) := ⟨_, rfl⟩
  obtain ⟨g_3, hg_3⟩ : ∃ z : zm_T, z = va_up g (200 + 2 * zn (u 0 8)) (fun _ => 0) := ⟨_, rfl⟩
  rw [← hsh_2, ← hg_3] at hW
  have hS : zc_S sh_2 := by rw [hsh_2]; exact zc_S200 (by omega) hS
  have hN : zc_N g_3 u := by rw [hg_3]; exact zc_Nv hN (by omega)
  refine lv_dup X.1 X.2.1 dX9_makeTicketAndPart_10 rfl ?_
  refine lv_aload_n X.1 X.2.1 dX9_makeTicketAndPart_11 rfl (lv_at hl 1 rfl) ?_
  refine zr_get (r := 100) (v := .ref (ad_1 103)) X hW fs_X9_19_8 dX9_makeTicketAndPart_12 (zc_s100 hS) ((had_1 100 (by omega)).trans had) rfl rfl ?_
  refine zr_get (r := 103) (v := .ref (ad_1 109)) X hW fs_X9_192_0 dX9_makeTicketAndPart_15 (zc_s103 hS) rfl rfl rfl ?_
  refine lv_iload_n X.1 X.2.1 dX9_makeTicketAndPart_18 rfl (lv_at hl 3 rfl) ?_
  refine zr_iald (r := 109) (v := u 5 (zn t)) X hW dX9_makeTicketAndPart_19 (zc_s109 hS) rfl rfl (zi_vp (by omega)) ((show g_3 109 (zn t) = g 109 (zn t) from (by rw [hg_3, va_up_ne _ _ (by omega)])).trans (hN0 _ _ _ _ (zc_l109 (zi_nl (by omega) (by decide))))) ?_
  refine lv_iload_n X.1 X.2.1 dX9_makeTicketAndPart_20 rfl (lv_at hl 2 rfl) ?_
  refine lv_iload X.1 X.2.1 dX9_makeTicketAndPart_21 (lv_at hl 0 rfl) ?_
  refine lv_aload_n X.1 X.2.1 dX9_makeTicketAndPart_23 rfl (lv_at hl 1 rfl) ?_
  refine zr_get (r := 100) (v := .ref (ad_1 101)) X hW fs_X9_9_8 dX9_makeTicketAndPart_24 (zc_s100 hS) ((had_1 100 (by omega)).trans had) rfl rfl ?_
  refine lv_iconst (v := 0) X.1 X.2.1 dX9_makeTicketAndPart_27 (by decide) ?_
  refine zr_iald (r := 101) (v := u 1 0) X hW dX9_makeTicketAndPart_28 (zc_s101 hS) rfl rfl (zi_vp (by decide)) ((show g_3 101 (0 : Int32).toNatClampNeg = g_3 101 0 from rfl).trans ((show g_3 101 0 = g 101 0 from (by rw [hg_3, va_up_ne _ _ (by omega)])).trans (hN0 _ _ _ _ rfl))) ?_
  refine lv_iload X.1 X.2.1 dX9_makeTicketAndPart_29 (lv_at hl 6 rfl) ?_
  refine lv_iload X.1 X.2.1 dX9_makeTicketAndPart_31 (lv_at hl 7 rfl) ?_
  refine zr_callI (As := [.int (u 5 (zn t)), .int cn, .int sk, .int (u 1 0), .int en, .int la]) (rest := [.ref (ad_1 (200 + 2 * zn (u 0 8))), .ref (a0)]) (b := ad_1 (200 + 2 * zn (u 0 8))) X hW hl.1 md_X7_init ms_X9_313 rfl dX9_makeTicketAndPart_33 rfl rfl (Nat.le_of_ble_eq_true rfl) ⟨Nat.le_of_ble_eq_true rfl, Nat.le_of_ble_eq_true rfl⟩ ⟨Nat.le_of_ble_eq_true rfl, Nat.le_of_ble_eq_true rfl⟩ (c_X7_init l Y N0 ad_1 sh_2 g_3 ((200 + 2 * zn (u 0 8))) (show sh_2 (200 + 2 * zn (u 0 8)) = some (.inl (6, [none, none, none, none, none, none])) from (by rw [hsh_2]; exact va_up_self _ _ _)) (u 5 (zn t)) cn sk (u 1 0) en la) (fun v9 ad9 sh9 g9 H locs hp hW => ?_)
  obtain ⟨rfl, rfl, rfl, rfl⟩ := hp
  obtain ⟨g_10, hg_10⟩ : ∃ z : zm_T, z = zm_w g_3 (200 + 2 * zn (u 0 8)) 0 (u 5 (zn t)) := ⟨_, rfl⟩
  obtain ⟨g_11, hg_11⟩ : ∃ z : zm_T, z = zm_w g_10 (200 + 2 * zn (u 0 8)) 1 cn := ⟨_, rfl⟩
  obtain ⟨g_12, hg_12⟩ : ∃ z : zm_T, z = zm_w g_11 (200 + 2 * zn (u 0 8)) 2 sk := ⟨_, rfl⟩
  obtain ⟨g_13, hg_13⟩ : ∃ z : zm_T, z = zm_w g_12 (200 + 2 * zn (u 0 8)) 3 (u 1 0) := ⟨_, rfl⟩
  obtain ⟨g_14, hg_14⟩ : ∃ z : zm_T, z = zm_w g_13 (200 + 2 * zn (u 0 8)) 4 en := ⟨_, rfl⟩
  obtain ⟨g_15, hg_15⟩ : ∃ z : zm_T, z = zm_w g_14 (200 + 2 * zn (u 0 8)) 5 la := ⟨_, rfl⟩
  rw [← hg_10, ← hg_11, ← hg_12, ← hg_13, ← hg_14, ← hg_15] at hW
  have hN : zc_N g_10 u := by rw [hg_10]; exact zc_Nc hN (zc_lm200 (by omega)) _
  have hN : zc_N g_11 u := by rw [hg_11]; exact zc_Nc hN (zc_lm200 (by omega)) _
  have hN : zc_N g_12 u := by rw [hg_12]; exact zc_Nc hN (zc_lm200 (by omega)) _
  have hN : zc_N g_13 u := by rw [hg_13]; exact zc_Nc hN (zc_lm200 (by omega)) _
  have hN : zc_N g_14 u := by rw [hg_14]; exact zc_Nc hN (zc_lm200 (by omega)) _
  have hN : zc_N g_15 u := by rw [hg_15]; exact zc_Nc hN (zc_lm200 (by omega)) _
  refine zr_callV (As := [.ref (ad_1 (200 + 2 * zn (u 0 8)))]) (rest := []) X hW hl.1 md_X9_keep ms_X9_130 dX9_makeTicketAndPart_36 (zc_s100 hS) rfl rfl rfl (by rw [((had_1 100 (by omega)).trans had)] <;> rfl) (Nat.le_of_ble_eq_true rfl) ⟨Nat.le_of_ble_eq_true rfl, Nat.le_of_ble_eq_true rfl⟩ ⟨Nat.le_of_ble_eq_true rfl, Nat.le_of_ble_eq_true rfl⟩ (c_X9_keep_6 l Y N0 ad_1 sh_2 g_15 hS (u 0 8) ((show g_15 100 8 = g_14 100 8 from (by rw [hg_15]; exact zm_wn _ _ (Or.inl (by omega)))).trans ((show g_14 100 8 = g_13 100 8 from (by rw [hg_14]; exact zm_wn _ _ (Or.inl (by omega)))).trans ((show g_13 100 8 = g_12 100 8 from (by rw [hg_13]; exact zm_wn _ _ (Or.inl (by omega)))).trans ((show g_12 100 8 = g_11 100 8 from (by rw [hg_12]; exact zm_wn _ _ (Or.inl (by omega)))).trans ((show g_11 100 8 = g_10 100 8 from (by rw [hg_11]; exact zm_wn _ _ (Or.inl (by omega)))).trans ((show g_10 100 8 = g_3 100 8 from (by rw [hg_10]; exact zm_wn _ _ (Or.inl (by omega)))).trans ((show g_3 100 8 = g 100 8 from (by rw [hg_3, va_up_ne _ _ (by omega)])).trans (hN0 _ _ _ _ rfl)))))))) h8 (show sh_2 107 = some (.inr (3, 150, some (zc_sf (zn (u 0 8))))) from (by rw [hsh_2]; exact (va_up_ne _ _ (by omega)).trans hR.2.2.2.2.1)) (show sh_2 (200 + 2 * zn (u 0 8)) = some (.inl (6, [none, none, none, none, none, none])) from (by rw [hsh_2]; exact va_up_self _ _ _))) (fun v9 ad9 sh9 g9 H locs hp hW => ?_)
  obtain ⟨rfl, rfl, rfl, rfl⟩ := hp
  obtain ⟨sh_16, hsh_16⟩ : ∃ z : Nat → Option zw_Sh, z = va_up sh_2 107 (some (.inr (3, 150, some (zc_sf (zn (u 0 8) + 1))))) := ⟨_, rfl⟩
  obtain ⟨g_17, hg_17⟩ : ∃ z : zm_T, z = zm_w g_15 100 8 (u 0 8 + 1) := ⟨_, rfl⟩
  rw [← hsh_16, ← hg_17] at hW
  refine lv_istore (lv' := [(8, .int (u 0 8)), (7, .int sk), (0, .ref (a0)), (1, .int cn), (2, .int t), (3, .int nc), (4, .int pk), (5, .int en), (6, .int la)]) X.1 X.2.1 dX9_makeTicketAndPart_39 hl (by decide) rfl (fun ls hl => ?_)
  have hN9 : zc_N g_17 (zs_mk u (zs_v 2 (u 5 (zn t)) cn sk (u 1 0) en la 0 0 0)) := by
    have e : u 0 8 = u 0 8 := by rfl
    rw [hg_17, ← e]; exact zc_Nmk hN _
  have e8 : zn (u 0 8) = zn (u 0 8) := by rfl
  have hu9 : ∀ r i : Nat, (r = 20 ∨ r = 22 ∨ r = 23 ∨ r = 24 ∨ r = 29 ∨ (r = 0 ∧ i = 28) ∨ (9 ≤ r ∧ r ≤ 18 ∧ i ≠ zn (u 0 8))) → zs_mk u (zs_v 2 (u 5 (zn t)) cn sk (u 1 0) en la 0 0 0) r i = u r i := fun r i h => by
    rw [zs_mku u _ r i (by rw [e8]; exact h)]
  have hvv : ∀ r : Nat, 9 ≤ r ∧ r ≤ 18 → zs_mk u (zs_v 2 (u 5 (zn t)) cn sk (u 1 0) en la 0 0 0) r (zn (u 0 8)) = (zs_v 2 (u 5 (zn t)) cn sk (u 1 0) en la 0 0 0) r := fun r h => by rw [← e8]; exact zs_mkn u _ h
  have hsl9 : zc_sl sh_16 g_17 (zs_mk u (zs_v 2 (u 5 (zn t)) cn sk (u 1 0) en la 0 0 0)) (zn (u 0 8)) := by
    unfold zc_sl
    rw [hvv 9 (by decide), hvv 10 (by decide), hvv 11 (by decide), hvv 12 (by decide), hvv 13 (by decide), hvv 14 (by decide), hvv 15 (by decide), hvv 16 (by decide), hvv 17 (by decide), hvv 18 (by decide)]
    exact ⟨fun h => absurd (show (2 : Int32).toInt = 1 from h) (by decide), fun _ => ⟨(show sh_16 (200 + 2 * zn (u 0 8)) = some (.inl (6, [none, none, none, none, none, none])) from (by rw [hsh_16]; exact (va_up_ne _ _ (by omega)).trans (show sh_2 (200 + 2 * zn (u 0 8)) = some (.inl (6, [none, none, none, none, none, none])) from (by rw [hsh_2]; exact va_up_self _ _ _)))), ((show g_17 (200 + 2 * zn (u 0 8)) 0 = g_15 (200 + 2 * zn (u 0 8)) 0 from (by rw [hg_17, zm_wn _ _ (Or.inl (by omega))])).trans ((show g_15 (200 + 2 * zn (u 0 8)) 0 = g_14 (200 + 2 * zn (u 0 8)) 0 from (by rw [hg_15]; exact zm_wn _ _ (Or.inr (by decide)))).trans ((show g_14 (200 + 2 * zn (u 0 8)) 0 = g_13 (200 + 2 * zn (u 0 8)) 0 from (by rw [hg_14]; exact zm_wn _ _ (Or.inr (by decide)))).trans ((show g_13 (200 + 2 * zn (u 0 8)) 0 = g_12 (200 + 2 * zn (u 0 8)) 0 from (by rw [hg_13]; exact zm_wn _ _ (Or.inr (by decide)))).trans ((show g_12 (200 + 2 * zn (u 0 8)) 0 = g_11 (200 + 2 * zn (u 0 8)) 0 from (by rw [hg_12]; exact zm_wn _ _ (Or.inr (by decide)))).trans ((show g_11 (200 + 2 * zn (u 0 8)) 0 = g_10 (200 + 2 * zn (u 0 8)) 0 from (by rw [hg_11]; exact zm_wn _ _ (Or.inr (by decide)))).trans (show g_10 (200 + 2 * zn (u 0 8)) 0 = u 5 (zn t) from (by rw [hg_10]; exact zm_ws _ _ _ _)))))))), ((show g_17 (200 + 2 * zn (u 0 8)) 1 = g_15 (200 + 2 * zn (u 0 8)) 1 from (by rw [hg_17, zm_wn _ _ (Or.inl (by omega))])).trans ((show g_15 (200 + 2 * zn (u 0 8)) 1 = g_14 (200 + 2 * zn (u 0 8)) 1 from (by rw [hg_15]; exact zm_wn _ _ (Or.inr (by decide)))).trans ((show g_14 (200 + 2 * zn (u 0 8)) 1 = g_13 (200 + 2 * zn (u 0 8)) 1 from (by rw [hg_14]; exact zm_wn _ _ (Or.inr (by decide)))).trans ((show g_13 (200 + 2 * zn (u 0 8)) 1 = g_12 (200 + 2 * zn (u 0 8)) 1 from (by rw [hg_13]; exact zm_wn _ _ (Or.inr (by decide)))).trans ((show g_12 (200 + 2 * zn (u 0 8)) 1 = g_11 (200 + 2 * zn (u 0 8)) 1 from (by rw [hg_12]; exact zm_wn _ _ (Or.inr (by decide)))).trans (show g_11 (200 + 2 * zn (u 0 8)) 1 = cn from (by rw [hg_11]; exact zm_ws _ _ _ _))))))), ((show g_17 (200 + 2 * zn (u 0 8)) 2 = g_15 (200 + 2 * zn (u 0 8)) 2 from (by rw [hg_17, zm_wn _ _ (Or.inl (by omega))])).trans ((show g_15 (200 + 2 * zn (u 0 8)) 2 = g_14 (200 + 2 * zn (u 0 8)) 2 from (by rw [hg_15]; exact zm_wn _ _ (Or.inr (by decide)))).trans ((show g_14 (200 + 2 * zn (u 0 8)) 2 = g_13 (200 + 2 * zn (u 0 8)) 2 from (by rw [hg_14]; exact zm_wn _ _ (Or.inr (by decide)))).trans ((show g_13 (200 + 2 * zn (u 0 8)) 2 = g_12 (200 + 2 * zn (u 0 8)) 2 from (by rw [hg_13]; exact zm_wn _ _ (Or.inr (by decide)))).trans (show g_12 (200 + 2 * zn (u 0 8)) 2 = sk from (by rw [hg_12]; exact zm_ws _ _ _ _)))))), ((show g_17 (200 + 2 * zn (u 0 8)) 3 = g_15 (200 + 2 * zn (u 0 8)) 3 from (by rw [hg_17, zm_wn _ _ (Or.inl (by omega))])).trans ((show g_15 (200 + 2 * zn (u 0 8)) 3 = g_14 (200 + 2 * zn (u 0 8)) 3 from (by rw [hg_15]; exact zm_wn _ _ (Or.inr (by decide)))).trans ((show g_14 (200 + 2 * zn (u 0 8)) 3 = g_13 (200 + 2 * zn (u 0 8)) 3 from (by rw [hg_14]; exact zm_wn _ _ (Or.inr (by decide)))).trans (show g_13 (200 + 2 * zn (u 0 8)) 3 = u 1 0 from (by rw [hg_13]; exact zm_ws _ _ _ _))))), ((show g_17 (200 + 2 * zn (u 0 8)) 4 = g_15 (200 + 2 * zn (u 0 8)) 4 from (by rw [hg_17, zm_wn _ _ (Or.inl (by omega))])).trans ((show g_15 (200 + 2 * zn (u 0 8)) 4 = g_14 (200 + 2 * zn (u 0 8)) 4 from (by rw [hg_15]; exact zm_wn _ _ (Or.inr (by decide)))).trans (show g_14 (200 + 2 * zn (u 0 8)) 4 = en from (by rw [hg_14]; exact zm_ws _ _ _ _)))), ((show g_17 (200 + 2 * zn (u 0 8)) 5 = g_15 (200 + 2 * zn (u 0 8)) 5 from (by rw [hg_17, zm_wn _ _ (Or.inl (by omega))])).trans (show g_15 (200 + 2 * zn (u 0 8)) 5 = la from (by rw [hg_15]; exact zm_ws _ _ _ _)))⟩, fun h => absurd (show (2 : Int32).toInt = 3 from h) (by decide), fun h => absurd (show (2 : Int32).toInt = 4 from h) (by decide)⟩
  have hz9 : zn (zs_mk u (zs_v 2 (u 5 (zn t)) cn sk (u 1 0) en la 0 0 0) 0 8) = zn (u 0 8) + 1 := by have q9 := zs_mkz (u := u) (by exact h8) (zs_v 2 (u 5 (zn t)) cn sk (u 1 0) en la 0 0 0); rw [q9, e8]
  have hR9 : zc_R sh_16 g_17 (zs_mk u (zs_v 2 (u 5 (zn t)) cn sk (u 1 0) en la 0 0 0)) := zc_add (n := (zn (u 0 8))) hR rfl hz9 hN9 hu9 (show sh_16 107 = some (.inr (3, 150, some (zc_sf (zn (u 0 8) + 1)))) from (by rw [hsh_16]; exact va_up_self _ _ _)) (fun r h1 h2 h3 => by rw [hsh_16, va_up_ne _ _ (by omega), hsh_2, va_up_ne _ _ (by omega)]) (fun r h1 h2 h3 => by rw [hg_17, zm_wr (by omega), hg_15, zm_wr (by omega), hg_14, zm_wr (by omega), hg_13, zm_wr (by omega), hg_12, zm_wr (by omega), hg_11, zm_wr (by omega), hg_10, zm_wr (by omega), hg_3, va_up_ne _ _ (by omega)]) (fun j hj => by rw [hg_17, zm_wn _ _ (by omega), hg_15, zm_wn _ _ (by omega), hg_14, zm_wn _ _ (by omega), hg_13, zm_wn _ _ (by omega), hg_12, zm_wn _ _ (by omega), hg_11, zm_wn _ _ (by omega), hg_10, zm_wn _ _ (by omega), hg_3, va_up_ne _ _ (by omega)]) hsl9
  have hf9 : zc_fr ad sh g ad_1 sh_16 g_17 := ⟨fun r hr => had_1 r (by omega), fun r hr => ⟨by rw [hsh_16, va_up_ne _ _ (by omega), hsh_2, va_up_ne _ _ (by omega)], by rw [hg_17, zm_wr (by omega), hg_15, zm_wr (by omega), hg_14, zm_wr (by omega), hg_13, zm_wr (by omega), hg_12, zm_wr (by omega), hg_11, zm_wr (by omega), hg_10, zm_wr (by omega), hg_3, va_up_ne _ _ (by omega)]⟩⟩
  have h8b : 0 ≤ (zs_mk u (zs_v 2 (u 5 (zn t)) cn sk (u 1 0) en la 0 0 0) 0 8).toInt ∧ (zs_mk u (zs_v 2 (u 5 (zn t)) cn sk (u 1 0) en la 0 0 0) 0 8).toInt < 150 := by
    rw [zs_mk8, zi_add _ _ (by rw [show (1 : Int32).toInt = 1 from rfl]; omega), show (1 : Int32).toInt = 1 from rfl]; omega
  exact c_mtp_B l Y N0 ad_1 sh_16 g_17 (zs_mk u (zs_v 2 (u 5 (zn t)) cn sk (u 1 0) en la 0 0 0)) hR9 a0 ((hf9.1 100 (by omega)).trans had) cn t nc pk en la sk (u 0 8) h8b post (fun ad' sh' g' q1 q2 => hpost ad' sh' g' q1 (zc_frt hf9 q2)) X hnm H locs ls hW hl

set_option maxHeartbeats 4000000 in
set_option maxRecDepth 100000 in
theorem c_X9_makeTicketAndPart (l : Launch) (Y : zw_Y) (N0 : Nat) (ad : Nat → Nat) (sh : Nat → Option zw_Sh) (g u : zm_T) (hR : zc_R sh g u) (h8a : 0 ≤ (u 0 8).toInt ∧ (u 0 8).toInt ≤ 148) (cn t nc pk en la : Int32) (ht : 0 ≤ t.toInt ∧ t.toInt ≤ 1) : zw_Met l Y N0 yX9_makeTicketAndPart cX9_makeTicketAndPart 9 (some .int) 3 67 2 11 ad sh g [.ref (ad 100), .int cn, .int t, .int nc, .int pk, .int en, .int la] (zc_Po ad sh g (u 0 8, zs_two u cn t nc en la pk)) := by
  refine zw_meth (by decide) (Nat.le_of_ble_eq_true rfl) ?_
  intro p e s m below meth c ls X hnm hl hW
  have hl : lv_has ls 9 [(0, .ref (ad 100)), (1, .int cn), (2, .int t), (3, .int nc), (4, .int pk), (5, .int en), (6, .int la)] := hl
  have hS := hR.1
  have hN0 := hR.2.1
  have hN := hR.2.1
  refine lv_aload_n X.1 X.2.1 dX9_makeTicketAndPart_0 rfl (lv_at hl 0 rfl) ?_
  refine zr_callV (As := []) (rest := []) X hW hl.1 md_X9_makeKey ms_X9_80 dX9_makeTicketAndPart_1 (zc_s100 hS) rfl rfl rfl rfl (Nat.le_of_ble_eq_true rfl) ⟨Nat.le_of_ble_eq_true rfl, Nat.le_of_ble_eq_true rfl⟩ ⟨Nat.le_of_ble_eq_true rfl, Nat.le_of_ble_eq_true rfl⟩ (c_X9_makeKey l Y N0 ad sh g u hS hN) (fun v9 ad9 sh9 g9 H locs hp hW => ?_)
  obtain ⟨rfl, rfl, _, rfl, rfl, rfl⟩ := hp
  obtain ⟨g_2, hg_2⟩ : ∃ z : zm_T, z = zm_w g 100 10 (u 0 2 + 1) := ⟨_, rfl⟩
  rw [← hg_2] at hW
  obtain ⟨u_3, hu_3⟩ : ∃ z : zm_T, z = zm_w u 0 2 (u 0 2 + 1) := ⟨_, rfl⟩
  have hN : zc_N g_2 u_3 := by rw [hg_2, hu_3]; exact zc_Nw hN rfl _
  refine lv_istore (lv' := [(7, .int (u 0 2)), (0, .ref (ad 100)), (1, .int cn), (2, .int t), (3, .int nc), (4, .int pk), (5, .int en), (6, .int la)]) X.1 X.2.1 dX9_makeTicketAndPart_4 hl (by decide) rfl (fun ls hl => ?_)
  have hR9 : zc_R sh g_2 u_3 := zc_Rof hR hN (fun r i h => by rw [hu_3, zm_wn _ _ (by omega)]) (fun r h => by rw [hg_2, zm_wr (by omega)]) (fun j hj => by rw [hg_2, zm_wn _ _ (by omega)])
  have hf9 : zc_fr ad sh g ad sh g_2 := zc_fr1 (fun r h => by rw [hg_2, zm_wr (by omega)])
  rw [hu_3] at hR9
  exact c_mtp_A l Y N0 ad sh g_2 (zm_w u 0 2 (u 0 2 + 1)) hR9 (ad 100) rfl cn t nc pk en la (u 0 2) h8a ht _ (fun ad' sh' g' q1 q2 => ⟨rfl, by rw [zs_mkw2] at q1; exact q1, zc_frt hf9 q2⟩) X hnm H locs ls hW hl
