theorem zs_mimn (x y : Int32) : zs_mi x y = zs_mn x y := by
  unfold zs_mi zs_mn
  by_cases h : x.toInt < y.toInt
  · rw [if_pos h, if_neg (by omega)]
  · rw [if_neg h]
    by_cases h2 : y.toInt < x.toInt
    · rw [if_pos h2]
    · rw [if_neg h2]; exact zi_ext (by omega)
theorem zs_mi3 (u : zm_T) (c t li : Int32) : zs_mi li (zs_mi (u 6 (zn c)) (u 6 (zn t))) = zs_most u c t li := by
  unfold zs_most
  rw [zs_mimn, zs_mimn]
  generalize u 6 (zn c) = y
  generalize u 6 (zn t) = z
  unfold zs_mn
  by_cases h1 : y.toInt < z.toInt <;> by_cases h2 : li.toInt < y.toInt <;> by_cases h3 : li.toInt < z.toInt <;> simp only [h1, h2, h3, if_true, if_false] <;> first | rfl | omega | exact zi_ext (by omega)

set_option maxHeartbeats 4000000 in
set_option maxRecDepth 100000 in
theorem c_X9_issue (l : Launch) (Y : zw_Y) (N0 : Nat) (ad : Nat → Nat) (sh : Nat → Option zw_Sh) (g u : zm_T) (hR : zc_R sh g u) (hI : zm_I u) (cn t nc q li : Int32) : zw_Met l Y N0 yX9_issue cX9_issue 9 (some .int) 4 95 2 11 ad sh g [.ref (ad 100), .int cn, .int t, .int nc, .int q, .int li] (zc_Po ad sh g (sp_issue cn t nc q li u)) := by
  refine zw_meth (by decide) (Nat.le_of_ble_eq_true rfl) ?_
  intro p e s m below meth c ls X hnm hl hW
  have hl : lv_has ls 9 [(0, .ref (ad 100)), (1, .int cn), (2, .int t), (3, .int nc), (4, .int q), (5, .int li)] := hl
  have hS := hR.1
  have hN0 := hR.2.1
  have hN := hR.2.1
  have hB : ∀ i : Nat, i < 12 → -1 ≤ (u 5 i).toInt := fun i hi => (zI_bk hI i hi).1
  have hT : ∀ i : Nat, i < 12 → -1 ≤ (u 23 i).toInt := fun i hi => (zI_tk hI i hi).1
  have hse := zI_se hI
  have hke := zI_ke hI
  refine lv_aload_n X.1 X.2.1 dX9_issue_0 rfl (lv_at hl 0 rfl) ?_
  refine lv_iload_n X.1 X.2.1 dX9_issue_1 rfl (lv_at hl 1 rfl) ?_
  refine zr_callV (As := [.int cn]) (rest := []) X hW hl.1 md_X9_isUserInBook ms_X9_186 dX9_issue_2 (zc_s100 hS) rfl rfl rfl rfl (Nat.le_of_ble_eq_true rfl) ⟨Nat.le_of_ble_eq_true rfl, Nat.le_of_ble_eq_true rfl⟩ ⟨Nat.le_of_ble_eq_true rfl, Nat.le_of_ble_eq_true rfl⟩ (c_X9_isUserInBook l Y N0 ad sh g u hS hN hB cn) (fun v9 ad9 sh9 g9 H locs hp hW => ?_)
  rcases hp with ⟨rfl, rfl, rfl, ⟨h_1, h9⟩ | ⟨h_1, h9⟩⟩
  · subst h9
    have h_1 : zs_us cn ∧ zs_bk u cn := h_1
    refine zr_if_eq (a := 1) (tgt := 22) X dX9_issue_5 (by decide) (by decide) (fun c9 => absurd c9 (by decide)) (fun _ => ?_)
    refine lv_aload_n X.1 X.2.1 dX9_issue_8 rfl (lv_at hl 0 rfl) ?_
    refine lv_iload_n X.1 X.2.1 dX9_issue_9 rfl (lv_at hl 2 rfl) ?_
    refine zr_callV (As := [.int t]) (rest := []) X hW hl.1 md_X9_isTargetInBook ms_X9_189 dX9_issue_10 (zc_s100 hS) rfl rfl rfl rfl (Nat.le_of_ble_eq_true rfl) ⟨Nat.le_of_ble_eq_true rfl, Nat.le_of_ble_eq_true rfl⟩ ⟨Nat.le_of_ble_eq_true rfl, Nat.le_of_ble_eq_true rfl⟩ (c_X9_isTargetInBook l Y N0 ad sh g u hS hN hB t) (fun v9 ad9 sh9 g9 H locs hp hW => ?_)
    rcases hp with ⟨rfl, rfl, rfl, ⟨h_2, h9⟩ | ⟨h_2, h9⟩⟩
    · subst h9
      have h_2 : zi_in t 0 1 ∧ zs_bk u t := h_2
      refine zr_if_eq (a := 1) (tgt := 22) X dX9_issue_13 (by decide) (by decide) (fun c9 => absurd c9 (by decide)) (fun _ => ?_)
      refine lv_iload X.1 X.2.1 dX9_issue_16 (lv_at hl 5 rfl) ?_
      refine lv_iconst (v := 1) X.1 X.2.1 dX9_issue_18 (by decide) ?_
      refine zr_icmp_ge (a := (li).toInt) (b := 1) (tgt := 24) X dX9_issue_19 (by decide) rfl (by decide) (fun c_3 => ?_) (fun c_3 => ?_)
      · refine lv_aload_n X.1 X.2.1 dX9_issue_24 rfl (lv_at hl 0 rfl) ?_
        refine lv_iload X.1 X.2.1 dX9_issue_25 (lv_at hl 4 rfl) ?_
        refine lv_aload_n X.1 X.2.1 dX9_issue_27 rfl (lv_at hl 0 rfl) ?_
        refine zr_get (r := 100) (v := .ref (ad 103)) X hW fs_X9_19_8 dX9_issue_28 (zc_s100 hS) rfl rfl rfl ?_
        refine zr_get (r := 103) (v := .ref (ad 109)) X hW fs_X9_192_0 dX9_issue_31 (zc_s103 hS) rfl rfl rfl ?_
        refine lv_iload_n X.1 X.2.1 dX9_issue_34 rfl (lv_at hl 1 rfl) ?_
        refine zr_iald (r := 109) (v := u 5 (zn cn)) X hW dX9_issue_35 (zc_s109 hS) rfl rfl (zi_vp (by omega)) (hN0 _ _ _ _ (zc_l109 (zi_nl (by omega) (by decide)))) ?_
        refine zr_callV (As := [.int q, .int (u 5 (zn cn))]) (rest := []) X hW hl.1 md_X9_openProof ms_X9_195 dX9_issue_36 (zc_s100 hS) rfl rfl rfl rfl (Nat.le_of_ble_eq_true rfl) ⟨Nat.le_of_ble_eq_true rfl, Nat.le_of_ble_eq_true rfl⟩ ⟨Nat.le_of_ble_eq_true rfl, Nat.le_of_ble_eq_true rfl⟩ (c_X9_openProof l Y N0 ad sh g u hR hI q (u 5 (zn cn))) (fun v9 ad9 sh9 g9 H locs hp hW => ?_)
        rcases hp with ⟨rfl, rfl, rfl, ⟨h_4, h8⟩ | ⟨h_4, h8⟩⟩
        · subst h8
          have h_4 : zs_op u (u 5 (zn cn)) q 1 := h_4
          have hq_5 := (hR.2.2.2.2.2.1 (zn q) (by simp only [zi_n]; omega)).1 h_4.2.1
          refine lv_astore (lv' := [(6, .ref (ad (200 + 2 * (zn q)))), (0, .ref (ad 100)), (1, .int cn), (2, .int t), (3, .int nc), (4, .int q), (5, .int li)]) X.1 X.2.1 dX9_issue_39 hl (by decide) rfl (fun ls hl => ?_)
          refine lv_aload X.1 X.2.1 dX9_issue_41 (lv_at hl 0 rfl) ?_
          refine lv_ifnonnull (tgt := 49) X.1 X.2.1 dX9_issue_43 (by decide) ?_
          refine lv_aload X.1 X.2.1 dX9_issue_49 (lv_at hl 0 rfl) ?_
          refine zr_get (r := (200 + 2 * (zn q))) (v := .int (u 11 ((zn q)))) X hW fs_X9_199_5 dX9_issue_51 hq_5.1 rfl rfl (congrArg Value.int hq_5.2.2.1) ?_
          refine lv_iload_n X.1 X.2.1 dX9_issue_54 rfl (lv_at hl 2 rfl) ?_
          refine zr_icmp_eq (a := (u 11 ((zn q))).toInt) (b := (cn).toInt) (tgt := 61) X dX9_issue_55 (by decide) rfl rfl (fun c_6 => ?_) (fun c_6 => ?_)
          · refine lv_aload_n X.1 X.2.1 dX9_issue_61 rfl (lv_at hl 1 rfl) ?_
            refine lv_aload X.1 X.2.1 dX9_issue_62 (lv_at hl 0 rfl) ?_
            refine zr_get (r := (200 + 2 * (zn q))) (v := .int (u 13 ((zn q)))) X hW fs_X9_202_5 dX9_issue_64 hq_5.1 rfl rfl (congrArg Value.int hq_5.2.2.2) ?_
            refine lv_aload_n X.1 X.2.1 dX9_issue_67 rfl (lv_at hl 1 rfl) ?_
            refine zr_get (r := 100) (v := .ref (ad 101)) X hW fs_X9_9_8 dX9_issue_68 (zc_s100 hS) rfl rfl rfl ?_
            refine lv_iconst (v := 0) X.1 X.2.1 dX9_issue_71 (by decide) ?_
            refine zr_iald (r := 101) (v := u 1 0) X hW dX9_issue_72 (zc_s101 hS) rfl rfl (zi_vp (by decide)) ((show g 101 (0 : Int32).toNatClampNeg = g 101 0 from rfl).trans (hN0 _ _ _ _ rfl)) ?_
            refine zr_callV (As := [.int (u 13 ((zn q))), .int (u 1 0)]) (rest := []) X hW hl.1 md_X9_near ms_X9_205 dX9_issue_73 (zc_s100 hS) rfl rfl rfl rfl (Nat.le_of_ble_eq_true rfl) ⟨Nat.le_of_ble_eq_true rfl, Nat.le_of_ble_eq_true rfl⟩ ⟨Nat.le_of_ble_eq_true rfl, Nat.le_of_ble_eq_true rfl⟩ (c_X9_near l Y N0 ad sh g u hS hN hI (u 13 ((zn q))) (u 1 0)) (fun v9 ad9 sh9 g9 H locs hp hW => ?_)
            rcases hp with ⟨rfl, rfl, rfl, ⟨h_7, h9⟩ | ⟨h_7, h9⟩⟩
            · subst h9
              have h_7 : zs_nr u (u 13 ((zn q))) (u 1 0) := h_7
              refine zr_if_ne (a := 1) (tgt := 82) X dX9_issue_76 (by decide) (by decide) (fun _ => ?_) (fun c9 => absurd c9 (by decide))
              refine lv_aload_n X.1 X.2.1 dX9_issue_82 rfl (lv_at hl 1 rfl) ?_
              refine lv_iconst (v := 1) X.1 X.2.1 dX9_issue_83 (by decide) ?_
              refine lv_iconst (v := 2) X.1 X.2.1 dX9_issue_84 (by decide) ?_
              refine zr_callV (As := [.int 1, .int 2]) (rest := []) X hW hl.1 md_X9_hasRoom ms_X9_76 dX9_issue_85 (zc_s100 hS) rfl rfl rfl rfl (Nat.le_of_ble_eq_true rfl) ⟨Nat.le_of_ble_eq_true rfl, Nat.le_of_ble_eq_true rfl⟩ ⟨Nat.le_of_ble_eq_true rfl, Nat.le_of_ble_eq_true rfl⟩ (c_X9_hasRoom_12 l Y N0 ad sh g u hS hN hI) (fun v9 ad9 sh9 g9 H locs hp hW => ?_)
              rcases hp with ⟨rfl, rfl, rfl, ⟨h_8, h9⟩ | ⟨h_8, h9⟩⟩
              · subst h9
                have h_8 : (u 0 2).toInt + 1 ≤ 200 ∧ (u 0 8).toInt + 2 ≤ 150 := h_8
                refine zr_if_ne (a := 1) (tgt := 94) X dX9_issue_88 (by decide) (by decide) (fun _ => ?_) (fun c9 => absurd c9 (by decide))
                refine lv_aload_n X.1 X.2.1 dX9_issue_94 rfl (lv_at hl 1 rfl) ?_
                refine lv_iload_n X.1 X.2.1 dX9_issue_95 rfl (lv_at hl 2 rfl) ?_
                refine lv_iload_n X.1 X.2.1 dX9_issue_96 rfl (lv_at hl 3 rfl) ?_
                refine lv_iload X.1 X.2.1 dX9_issue_97 (lv_at hl 6 rfl) ?_
                refine zr_callV (As := [.int cn, .int t, .int li]) (rest := []) X hW hl.1 md_X9_firstEnd ms_X9_208 dX9_issue_99 (zc_s100 hS) rfl rfl rfl rfl (Nat.le_of_ble_eq_true rfl) ⟨Nat.le_of_ble_eq_true rfl, Nat.le_of_ble_eq_true rfl⟩ ⟨Nat.le_of_ble_eq_true rfl, Nat.le_of_ble_eq_true rfl⟩ (c_X9_firstEnd l Y N0 ad sh g u hS hN cn t li (by omega) (by omega)) (fun v9 ad9 sh9 g9 H locs hp hW => ?_)
                obtain ⟨rfl, rfl, rfl, _, rfl, rfl⟩ := hp
                refine lv_istore (lv' := [(7, .int (u 1 0 + zs_mi li (zs_mi (u 6 (zn cn)) (u 6 (zn t))))), (6, .ref (ad (200 + 2 * (zn q)))), (0, .ref (ad 100)), (1, .int cn), (2, .int t), (3, .int nc), (4, .int q), (5, .int li)]) X.1 X.2.1 dX9_issue_102 hl (by decide) rfl (fun ls hl => ?_)
                refine lv_iload_n X.1 X.2.1 dX9_issue_104 rfl (lv_at hl 4 rfl) ?_
                refine zr_if_ne (a := (t).toInt) (tgt := 129) X dX9_issue_105 (by decide) rfl (fun c_9 => ?_) (fun c_9 => ?_)
                · refine lv_iload X.1 X.2.1 dX9_issue_129 (lv_at hl 0 rfl) ?_
                  refine lv_istore (lv' := [(8, .int (u 1 0 + zs_mi li (zs_mi (u 6 (zn cn)) (u 6 (zn t))))), (7, .int (u 1 0 + zs_mi li (zs_mi (u 6 (zn cn)) (u 6 (zn t))))), (6, .ref (ad (200 + 2 * (zn q)))), (0, .ref (ad 100)), (1, .int cn), (2, .int t), (3, .int nc), (4, .int q), (5, .int li)]) X.1 X.2.1 dX9_issue_131 hl (by decide) rfl (fun ls hl => ?_)
                  refine lv_aload_n X.1 X.2.1 dX9_issue_133 rfl (lv_at hl 3 rfl) ?_
                  refine lv_iload_n X.1 X.2.1 dX9_issue_134 rfl (lv_at hl 4 rfl) ?_
                  refine lv_iload_n X.1 X.2.1 dX9_issue_135 rfl (lv_at hl 5 rfl) ?_
                  refine lv_iload_n X.1 X.2.1 dX9_issue_136 rfl (lv_at hl 6 rfl) ?_
                  refine lv_aload_n X.1 X.2.1 dX9_issue_137 rfl (lv_at hl 3 rfl) ?_
                  refine zr_get (r := 100) (v := .ref (ad 103)) X hW fs_X9_19_8 dX9_issue_138 (zc_s100 hS) rfl rfl rfl ?_
                  refine zr_get (r := 103) (v := .ref (ad 109)) X hW fs_X9_192_0 dX9_issue_141 (zc_s103 hS) rfl rfl rfl ?_
                  refine lv_iload_n X.1 X.2.1 dX9_issue_144 rfl (lv_at hl 4 rfl) ?_
                  refine zr_iald (r := 109) (v := u 5 (zn cn)) X hW dX9_issue_145 (zc_s109 hS) rfl rfl (zi_vp (by omega)) (hN0 _ _ _ _ (zc_l109 (zi_nl (by omega) (by decide)))) ?_
                  refine lv_iload X.1 X.2.1 dX9_issue_146 (lv_at hl 1 rfl) ?_
                  refine lv_iload X.1 X.2.1 dX9_issue_148 (lv_at hl 0 rfl) ?_
                  refine zr_callV (As := [.int cn, .int t, .int nc, .int (u 5 (zn cn)), .int (u 1 0 + zs_mi li (zs_mi (u 6 (zn cn)) (u 6 (zn t)))), .int (u 1 0 + zs_mi li (zs_mi (u 6 (zn cn)) (u 6 (zn t))))]) (rest := []) X hW hl.1 md_X9_makeTicketAndPart ms_X9_212 dX9_issue_150 (zc_s100 hS) rfl rfl rfl rfl (Nat.le_of_ble_eq_true rfl) ⟨Nat.le_of_ble_eq_true rfl, Nat.le_of_ble_eq_true rfl⟩ ⟨Nat.le_of_ble_eq_true rfl, Nat.le_of_ble_eq_true rfl⟩ (c_X9_makeTicketAndPart l Y N0 ad sh g u hR (by omega) cn t nc (u 5 (zn cn)) (u 1 0 + zs_mi li (zs_mi (u 6 (zn cn)) (u 6 (zn t)))) (u 1 0 + zs_mi li (zs_mi (u 6 (zn cn)) (u 6 (zn t)))) (by omega)) (fun v9 ad9 sh9 g9 H locs hp hW => ?_)
                  obtain ⟨rfl, hR9, hf9⟩ := hp
                  have e9 : sp_issue cn t nc q li u = (u 0 8, zs_two u cn t nc (u 1 0 + zs_mi li (zs_mi (u 6 (zn cn)) (u 6 (zn t)))) (u 1 0 + zs_mi li (zs_mi (u 6 (zn cn)) (u 6 (zn t)))) (u 5 (zn cn))) := (by unfold sp_issue; (repeat (first | refine (if_pos (by omega)).trans ?_ | refine (if_neg (by omega)).trans ?_)); (first | rw [if_pos (by omega)] | rw [if_neg (by omega)]); rw [zs_mi3])
                  exact zr_iret X hW dX9_issue_153 (Nat.le_of_ble_eq_true rfl) (Nat.le_of_ble_eq_true rfl) ⟨by rw [e9], by rw [e9]; exact hR9, hf9⟩
                · refine lv_aload_n X.1 X.2.1 dX9_issue_108 rfl (lv_at hl 2 rfl) ?_
                  refine zr_get (r := 100) (v := .ref (ad 101)) X hW fs_X9_9_8 dX9_issue_109 (zc_s100 hS) rfl rfl rfl ?_
                  refine lv_iconst (v := 0) X.1 X.2.1 dX9_issue_112 (by decide) ?_
                  refine zr_iald (r := 101) (v := u 1 0) X hW dX9_issue_113 (zc_s101 hS) rfl rfl (zi_vp (by decide)) ((show g 101 (0 : Int32).toNatClampNeg = g 101 0 from rfl).trans (hN0 _ _ _ _ rfl)) ?_
                  refine lv_iconst (v := 5) X.1 X.2.1 dX9_issue_114 (by decide) ?_
                  refine lv_aload_n X.1 X.2.1 dX9_issue_115 rfl (lv_at hl 2 rfl) ?_
                  refine zr_get (r := 100) (v := .ref (ad 103)) X hW fs_X9_19_8 dX9_issue_116 (zc_s100 hS) rfl rfl rfl ?_
                  refine zr_get (r := 103) (v := .ref (ad 110)) X hW fs_X9_95_0 dX9_issue_119 (zc_s103 hS) rfl rfl rfl ?_
                  refine lv_iload_n X.1 X.2.1 dX9_issue_122 rfl (lv_at hl 3 rfl) ?_
                  refine zr_iald (r := 110) (v := u 6 (zn cn)) X hW dX9_issue_123 (zc_s110 hS) rfl rfl (zi_vp (by omega)) (hN0 _ _ _ _ (zc_l110 (zi_nl (by omega) (by decide)))) ?_
                  refine lv_imul X.1 X.2.1 dX9_issue_124 ?_
                  refine lv_iadd X.1 X.2.1 dX9_issue_125 ?_
                  refine lv_goto (tgt := 131) X.1 X.2.1 dX9_issue_126 (by decide) ?_
                  refine lv_istore (lv' := [(8, .int ((u 1 0) + (5 * (u 6 (zn cn))))), (7, .int (u 1 0 + zs_mi li (zs_mi (u 6 (zn cn)) (u 6 (zn t))))), (6, .ref (ad (200 + 2 * (zn q)))), (0, .ref (ad 100)), (1, .int cn), (2, .int t), (3, .int nc), (4, .int q), (5, .int li)]) X.1 X.2.1 dX9_issue_131 hl (by decide) rfl (fun ls hl => ?_)
                  refine lv_aload_n X.1 X.2.1 dX9_issue_133 rfl (lv_at hl 3 rfl) ?_
                  refine lv_iload_n X.1 X.2.1 dX9_issue_134 rfl (lv_at hl 4 rfl) ?_
                  refine lv_iload_n X.1 X.2.1 dX9_issue_135 rfl (lv_at hl 5 rfl) ?_
                  refine lv_iload_n X.1 X.2.1 dX9_issue_136 rfl (lv_at hl 6 rfl) ?_
                  refine lv_aload_n X.1 X.2.1 dX9_issue_137 rfl (lv_at hl 3 rfl) ?_
                  refine zr_get (r := 100) (v := .ref (ad 103)) X hW fs_X9_19_8 dX9_issue_138 (zc_s100 hS) rfl rfl rfl ?_
                  refine zr_get (r := 103) (v := .ref (ad 109)) X hW fs_X9_192_0 dX9_issue_141 (zc_s103 hS) rfl rfl rfl ?_
                  refine lv_iload_n X.1 X.2.1 dX9_issue_144 rfl (lv_at hl 4 rfl) ?_
                  refine zr_iald (r := 109) (v := u 5 (zn cn)) X hW dX9_issue_145 (zc_s109 hS) rfl rfl (zi_vp (by omega)) (hN0 _ _ _ _ (zc_l109 (zi_nl (by omega) (by decide)))) ?_
                  refine lv_iload X.1 X.2.1 dX9_issue_146 (lv_at hl 1 rfl) ?_
                  refine lv_iload X.1 X.2.1 dX9_issue_148 (lv_at hl 0 rfl) ?_
                  refine zr_callV (As := [.int cn, .int t, .int nc, .int (u 5 (zn cn)), .int (u 1 0 + zs_mi li (zs_mi (u 6 (zn cn)) (u 6 (zn t)))), .int ((u 1 0) + (5 * (u 6 (zn cn))))]) (rest := []) X hW hl.1 md_X9_makeTicketAndPart ms_X9_212 dX9_issue_150 (zc_s100 hS) rfl rfl rfl rfl (Nat.le_of_ble_eq_true rfl) ⟨Nat.le_of_ble_eq_true rfl, Nat.le_of_ble_eq_true rfl⟩ ⟨Nat.le_of_ble_eq_true rfl, Nat.le_of_ble_eq_true rfl⟩ (c_X9_makeTicketAndPart l Y N0 ad sh g u hR (by omega) cn t nc (u 5 (zn cn)) (u 1 0 + zs_mi li (zs_mi (u 6 (zn cn)) (u 6 (zn t)))) ((u 1 0) + (5 * (u 6 (zn cn)))) (by omega)) (fun v9 ad9 sh9 g9 H locs hp hW => ?_)
                  obtain ⟨rfl, hR9, hf9⟩ := hp
                  have e9 : sp_issue cn t nc q li u = (u 0 8, zs_two u cn t nc (u 1 0 + zs_mi li (zs_mi (u 6 (zn cn)) (u 6 (zn t)))) ((u 1 0) + (5 * (u 6 (zn cn)))) (u 5 (zn cn))) := (by unfold sp_issue; (repeat (first | refine (if_pos (by omega)).trans ?_ | refine (if_neg (by omega)).trans ?_)); (first | rw [if_pos (by omega)] | rw [if_neg (by omega)]); rw [zs_mi3])
                  exact zr_iret X hW dX9_issue_153 (Nat.le_of_ble_eq_true rfl) (Nat.le_of_ble_eq_true rfl) ⟨by rw [e9], by rw [e9]; exact hR9, hf9⟩
              · subst h9
                have h_8 : ¬ ((u 0 2).toInt + 1 ≤ 200 ∧ (u 0 8).toInt + 2 ≤ 150) := h_8
                refine zr_if_ne (a := 0) (tgt := 94) X dX9_issue_88 (by decide) (by decide) (fun c9 => absurd c9 (by decide)) (fun _ => ?_)
                refine lv_bipush (v := (-7)) X.1 X.2.1 dX9_issue_91 (by decide) ?_
                have e9 : sp_issue cn t nc q li u = ((-7), u) := (by unfold sp_issue; (repeat (first | refine (if_pos (by omega)).trans ?_ | refine (if_neg (by omega)).trans ?_)); rfl)
                exact zr_iret X hW dX9_issue_93 (Nat.le_of_ble_eq_true rfl) (Nat.le_of_ble_eq_true rfl) ⟨by rw [e9], by rw [e9]; exact hR, zc_fr0⟩
            · subst h9
              have h_7 : ¬ (zs_nr u (u 13 ((zn q))) (u 1 0)) := h_7
              refine zr_if_ne (a := 0) (tgt := 82) X dX9_issue_76 (by decide) (by decide) (fun c9 => absurd c9 (by decide)) (fun _ => ?_)
              refine lv_bipush (v := (-4)) X.1 X.2.1 dX9_issue_79 (by decide) ?_
              have e9 : sp_issue cn t nc q li u = ((-4), u) := (by unfold sp_issue; (repeat (first | refine (if_pos (by omega)).trans ?_ | refine (if_neg (by omega)).trans ?_)); rfl)
              exact zr_iret X hW dX9_issue_81 (Nat.le_of_ble_eq_true rfl) (Nat.le_of_ble_eq_true rfl) ⟨by rw [e9], by rw [e9]; exact hR, zc_fr0⟩
          · refine lv_bipush (v := (-3)) X.1 X.2.1 dX9_issue_58 (by decide) ?_
            have e9 : sp_issue cn t nc q li u = ((-3), u) := (by unfold sp_issue; (repeat (first | refine (if_pos (by omega)).trans ?_ | refine (if_neg (by omega)).trans ?_)); rfl)
            exact zr_iret X hW dX9_issue_60 (Nat.le_of_ble_eq_true rfl) (Nat.le_of_ble_eq_true rfl) ⟨by rw [e9], by rw [e9]; exact hR, zc_fr0⟩
        · subst h8
          have h_4 : ¬ zs_op u (u 5 (zn cn)) q 1 := h_4
          refine lv_astoreN (lv' := [(6, .null), (0, .ref (ad 100)), (1, .int cn), (2, .int t), (3, .int nc), (4, .int q), (5, .int li)]) X.1 X.2.1 dX9_issue_39 hl (by decide) rfl (fun ls hl => ?_)
          refine lv_aloadN X.1 X.2.1 dX9_issue_41 (lv_at hl 0 rfl) ?_
          refine lv_ifnonnullN X.1 X.2.1 dX9_issue_43 ?_
          refine lv_bipush (v := (-2)) X.1 X.2.1 dX9_issue_46 (by decide) ?_
          have e9 : sp_issue cn t nc q li u = ((-2), u) := (by unfold sp_issue; (repeat (first | refine (if_pos (by omega)).trans ?_ | refine (if_neg (by omega)).trans ?_)); rfl)
          exact zr_iret X hW dX9_issue_48 (Nat.le_of_ble_eq_true rfl) (Nat.le_of_ble_eq_true rfl) ⟨by rw [e9], by rw [e9]; exact hR, zc_fr0⟩
      · refine lv_iconst (v := (-1)) X.1 X.2.1 dX9_issue_22 (by decide) ?_
        have e9 : sp_issue cn t nc q li u = ((-1), u) := (by unfold sp_issue; (repeat (first | refine (if_pos (by omega)).trans ?_ | refine (if_neg (by omega)).trans ?_)); rfl)
        exact zr_iret X hW dX9_issue_23 (Nat.le_of_ble_eq_true rfl) (Nat.le_of_ble_eq_true rfl) ⟨by rw [e9], by rw [e9]; exact hR, zc_fr0⟩
    · subst h9
      have h_2 : ¬ (zi_in t 0 1 ∧ zs_bk u t) := h_2
      refine zr_if_eq (a := 0) (tgt := 22) X dX9_issue_13 (by decide) (by decide) (fun _ => ?_) (fun c9 => absurd c9 (by decide))
      refine lv_iconst (v := (-1)) X.1 X.2.1 dX9_issue_22 (by decide) ?_
      have e9 : sp_issue cn t nc q li u = ((-1), u) := (by unfold sp_issue; (repeat (first | refine (if_pos (by omega)).trans ?_ | refine (if_neg (by omega)).trans ?_)); rfl)
      exact zr_iret X hW dX9_issue_23 (Nat.le_of_ble_eq_true rfl) (Nat.le_of_ble_eq_true rfl) ⟨by rw [e9], by rw [e9]; exact hR, zc_fr0⟩
  · subst h9
    have h_1 : ¬ (zs_us cn ∧ zs_bk u cn) := h_1
    refine zr_if_eq (a := 0) (tgt := 22) X dX9_issue_5 (by decide) (by decide) (fun _ => ?_) (fun c9 => absurd c9 (by decide))
    refine lv_iconst (v := (-1)) X.1 X.2.1 dX9_issue_22 (by decide) ?_
    have e9 : sp_issue cn t nc q li u = ((-1), u) := (by unfold sp_issue; (repeat (first | refine (if_pos (by omega)).trans ?_ | refine (if_neg (by omega)).trans ?_)); rfl)
    exact zr_iret X hW dX9_issue_23 (Nat.le_of_ble_eq_true rfl) (Nat.le_of_ble_eq_true rfl) ⟨by rw [e9], by rw [e9]; exact hR, zc_fr0⟩

set_option maxHeartbeats 4000000 in
set_option maxRecDepth 100000 in
theorem c_X9_grant (l : Launch) (Y : zw_Y) (N0 : Nat) (ad : Nat → Nat) (sh : Nat → Option zw_Sh) (g u : zm_T) (hR : zc_R sh g u) (hI : zm_I u) (k cl t nc li : Int32) : zw_Met l Y N0 yX9_grant cX9_grant 12 (some .int) 4 95 2 11 ad sh g [.ref (ad 100), .int k, .int cl, .int t, .int nc, .int li] (zc_Po ad sh g (sp_grant k cl t nc li u)) := by
  refine zw_meth (by decide) (Nat.le_of_ble_eq_true rfl) ?_
  intro p e s m below meth c ls X hnm hl hW
  have hl : lv_has ls 12 [(0, .ref (ad 100)), (1, .int k), (2, .int cl), (3, .int t), (4, .int nc), (5, .int li)] := hl
  have hS := hR.1
  have hN0 := hR.2.1
  have hN := hR.2.1
  have hB : ∀ i : Nat, i < 12 → -1 ≤ (u 5 i).toInt := fun i hi => (zI_bk hI i hi).1
  have hT : ∀ i : Nat, i < 12 → -1 ≤ (u 23 i).toInt := fun i hi => (zI_tk hI i hi).1
  have hse := zI_se hI
  have hke := zI_ke hI
  refine lv_aload_n X.1 X.2.1 dX9_grant_0 rfl (lv_at hl 0 rfl) ?_
  refine lv_iload_n X.1 X.2.1 dX9_grant_1 rfl (lv_at hl 3 rfl) ?_
  refine zr_callV (As := [.int t]) (rest := []) X hW hl.1 md_X9_isTargetInBook ms_X9_189 dX9_grant_2 (zc_s100 hS) rfl rfl rfl rfl (Nat.le_of_ble_eq_true rfl) ⟨Nat.le_of_ble_eq_true rfl, Nat.le_of_ble_eq_true rfl⟩ ⟨Nat.le_of_ble_eq_true rfl, Nat.le_of_ble_eq_true rfl⟩ (c_X9_isTargetInBook l Y N0 ad sh g u hS hN hB t) (fun v9 ad9 sh9 g9 H locs hp hW => ?_)
  rcases hp with ⟨rfl, rfl, rfl, ⟨h_1, h9⟩ | ⟨h_1, h9⟩⟩
  · subst h9
    have h_1 : zi_in t 0 1 ∧ zs_bk u t := h_1
    refine zr_if_eq (a := 1) (tgt := 25) X dX9_grant_5 (by decide) (by decide) (fun c9 => absurd c9 (by decide)) (fun _ => ?_)
    refine lv_aload_n X.1 X.2.1 dX9_grant_8 rfl (lv_at hl 0 rfl) ?_
    refine zr_get (r := 100) (v := .ref (ad 103)) X hW fs_X9_19_8 dX9_grant_9 (zc_s100 hS) rfl rfl rfl ?_
    refine lv_iconst (v := 0) X.1 X.2.1 dX9_grant_12 (by decide) ?_
    refine zr_callV (As := [.int 0]) (rest := []) X hW hl.1 md_X0_holds ms_X9_88 dX9_grant_13 (zc_s103 hS) rfl rfl rfl rfl (Nat.le_of_ble_eq_true rfl) ⟨Nat.le_of_ble_eq_true rfl, Nat.le_of_ble_eq_true rfl⟩ ⟨Nat.le_of_ble_eq_true rfl, Nat.le_of_ble_eq_true rfl⟩ (c_X0_holds_b l Y N0 ad sh g u hS hN hB 0) (fun v9 ad9 sh9 g9 H locs hp hW => ?_)
    rcases hp with ⟨rfl, rfl, rfl, ⟨h_2, h9⟩ | ⟨h_2, h9⟩⟩
    · subst h9
      have h_2 : zs_bk u 0 := h_2
      refine zr_if_eq (a := 1) (tgt := 25) X dX9_grant_16 (by decide) (by decide) (fun c9 => absurd c9 (by decide)) (fun _ => ?_)
      refine lv_iload X.1 X.2.1 dX9_grant_19 (lv_at hl 5 rfl) ?_
      refine lv_iconst (v := 1) X.1 X.2.1 dX9_grant_21 (by decide) ?_
      refine zr_icmp_ge (a := (li).toInt) (b := 1) (tgt := 27) X dX9_grant_22 (by decide) rfl (by decide) (fun c_3 => ?_) (fun c_3 => ?_)
      · refine lv_aload_n X.1 X.2.1 dX9_grant_27 rfl (lv_at hl 0 rfl) ?_
        refine lv_iload_n X.1 X.2.1 dX9_grant_28 rfl (lv_at hl 1 rfl) ?_
        refine lv_aload_n X.1 X.2.1 dX9_grant_29 rfl (lv_at hl 0 rfl) ?_
        refine zr_get (r := 100) (v := .ref (ad 103)) X hW fs_X9_19_8 dX9_grant_30 (zc_s100 hS) rfl rfl rfl ?_
        refine zr_get (r := 103) (v := .ref (ad 109)) X hW fs_X9_192_0 dX9_grant_33 (zc_s103 hS) rfl rfl rfl ?_
        refine lv_iconst (v := 0) X.1 X.2.1 dX9_grant_36 (by decide) ?_
        refine zr_iald (r := 109) (v := u 5 0) X hW dX9_grant_37 (zc_s109 hS) rfl rfl (zi_vp (by decide)) ((show g 109 (0 : Int32).toNatClampNeg = g 109 0 from rfl).trans (hN0 _ _ _ _ rfl)) ?_
        refine zr_callV (As := [.int k, .int (u 5 0)]) (rest := []) X hW hl.1 md_X9_openTicket ms_X9_216 dX9_grant_38 (zc_s100 hS) rfl rfl rfl rfl (Nat.le_of_ble_eq_true rfl) ⟨Nat.le_of_ble_eq_true rfl, Nat.le_of_ble_eq_true rfl⟩ ⟨Nat.le_of_ble_eq_true rfl, Nat.le_of_ble_eq_true rfl⟩ (c_X9_openTicket l Y N0 ad sh g u hR hI k (u 5 0)) (fun v9 ad9 sh9 g9 H locs hp hW => ?_)
        rcases hp with ⟨rfl, rfl, rfl, ⟨h_4, h8⟩ | ⟨h_4, h8⟩⟩
        · subst h8
          have h_4 : zs_op u (u 5 0) k 2 := h_4
          have hq_5 := (hR.2.2.2.2.2.1 (zn k) (by simp only [zi_n]; omega)).2.1 h_4.2.1
          refine lv_astore (lv' := [(6, .ref (ad (200 + 2 * (zn k)))), (0, .ref (ad 100)), (1, .int k), (2, .int cl), (3, .int t), (4, .int nc), (5, .int li)]) X.1 X.2.1 dX9_grant_41 hl (by decide) rfl (fun ls hl => ?_)
          refine lv_aload X.1 X.2.1 dX9_grant_43 (lv_at hl 0 rfl) ?_
          refine lv_ifnonnull (tgt := 52) X.1 X.2.1 dX9_grant_45 (by decide) ?_
          refine lv_aload_n X.1 X.2.1 dX9_grant_52 rfl (lv_at hl 1 rfl) ?_
          refine lv_iload_n X.1 X.2.1 dX9_grant_53 rfl (lv_at hl 3 rfl) ?_
          refine lv_aload X.1 X.2.1 dX9_grant_54 (lv_at hl 0 rfl) ?_
          refine zr_get (r := (200 + 2 * (zn k))) (v := .int (u 12 ((zn k)))) X hW fs_X9_220_6 dX9_grant_56 hq_5.1 rfl rfl (congrArg Value.int hq_5.2.2.2.1) ?_
          refine zr_callV (As := [.int cl, .int (u 12 ((zn k)))]) (rest := []) X hW hl.1 md_X9_openClaim ms_X9_223 dX9_grant_59 (zc_s100 hS) rfl rfl rfl rfl (Nat.le_of_ble_eq_true rfl) ⟨Nat.le_of_ble_eq_true rfl, Nat.le_of_ble_eq_true rfl⟩ ⟨Nat.le_of_ble_eq_true rfl, Nat.le_of_ble_eq_true rfl⟩ (c_X9_openClaim l Y N0 ad sh g u hR hI cl (u 12 ((zn k)))) (fun v9 ad9 sh9 g9 H locs hp hW => ?_)
          rcases hp with ⟨rfl, rfl, rfl, ⟨h_6, h8⟩ | ⟨h_6, h8⟩⟩
          · subst h8
            have h_6 : zs_op u (u 12 ((zn k))) cl 4 := h_6
            have hq_7 := (hR.2.2.2.2.2.1 (zn cl) (by simp only [zi_n]; omega)).2.2.2 h_6.2.1
            refine lv_astore (lv' := [(7, .ref (ad (200 + 2 * (zn cl)))), (6, .ref (ad (200 + 2 * (zn k)))), (0, .ref (ad 100)), (1, .int k), (2, .int cl), (3, .int t), (4, .int nc), (5, .int li)]) X.1 X.2.1 dX9_grant_62 hl (by decide) rfl (fun ls hl => ?_)
            refine lv_aload X.1 X.2.1 dX9_grant_64 (lv_at hl 1 rfl) ?_
            refine lv_ifnull X.1 X.2.1 dX9_grant_66 ?_
            refine lv_aload X.1 X.2.1 dX9_grant_69 (lv_at hl 0 rfl) ?_
            refine lv_ifnonnull (tgt := 77) X.1 X.2.1 dX9_grant_71 (by decide) ?_
            refine lv_aload X.1 X.2.1 dX9_grant_77 (lv_at hl 1 rfl) ?_
            refine zr_get (r := (200 + 2 * (zn k))) (v := .int (u 11 ((zn k)))) X hW fs_X9_227_6 dX9_grant_79 hq_5.1 rfl rfl (congrArg Value.int hq_5.2.2.1) ?_
            refine lv_istore (lv' := [(8, .int (u 11 ((zn k)))), (7, .ref (ad (200 + 2 * (zn cl)))), (6, .ref (ad (200 + 2 * (zn k)))), (0, .ref (ad 100)), (1, .int k), (2, .int cl), (3, .int t), (4, .int nc), (5, .int li)]) X.1 X.2.1 dX9_grant_82 hl (by decide) rfl (fun ls hl => ?_)
            refine lv_aload X.1 X.2.1 dX9_grant_84 (lv_at hl 1 rfl) ?_
            refine zr_get (r := (200 + 2 * (zn cl))) (v := .int (u 11 ((zn cl)))) X hW fs_X9_228_1 dX9_grant_86 hq_7.1 rfl rfl (congrArg Value.int hq_7.2.2.2.1) ?_
            refine lv_iload X.1 X.2.1 dX9_grant_89 (lv_at hl 0 rfl) ?_
            refine zr_icmp_ne (a := (u 11 ((zn cl))).toInt) (b := (u 11 ((zn k))).toInt) (tgt := 114) X dX9_grant_91 (by decide) rfl rfl (fun c_8 => ?_) (fun c_8 => ?_)
            · refine lv_bipush (v := (-3)) X.1 X.2.1 dX9_grant_114 (by decide) ?_
              have e9 : sp_grant k cl t nc li u = ((-3), u) := (by unfold sp_grant; (repeat (first | refine (if_pos (by omega)).trans ?_ | refine (if_neg (by omega)).trans ?_)); rfl)
              exact zr_iret X hW dX9_grant_116 (Nat.le_of_ble_eq_true rfl) (Nat.le_of_ble_eq_true rfl) ⟨by rw [e9], by rw [e9]; exact hR, zc_fr0⟩
            · refine lv_aload X.1 X.2.1 dX9_grant_94 (lv_at hl 1 rfl) ?_
              refine zr_get (r := (200 + 2 * (zn cl))) (v := .ref (ad ((201 + 2 * (zn cl))))) X hW fs_X9_229_1 dX9_grant_96 hq_7.1 rfl rfl rfl ?_
              refine zr_get (r := (201 + 2 * (zn cl))) (v := .int (u 16 ((zn cl)))) X hW fs_X9_233_3 dX9_grant_99 hq_7.2.1 rfl rfl (congrArg Value.int hq_7.2.2.2.2.2.2.1) ?_
              refine zr_if_ne (a := (u 16 ((zn cl))).toInt) (tgt := 114) X dX9_grant_102 (by decide) rfl (fun c_9 => ?_) (fun c_9 => ?_)
              · refine lv_bipush (v := (-3)) X.1 X.2.1 dX9_grant_114 (by decide) ?_
                have e9 : sp_grant k cl t nc li u = ((-3), u) := (by unfold sp_grant; (repeat (first | refine (if_pos (by omega)).trans ?_ | refine (if_neg (by omega)).trans ?_)); rfl)
                exact zr_iret X hW dX9_grant_116 (Nat.le_of_ble_eq_true rfl) (Nat.le_of_ble_eq_true rfl) ⟨by rw [e9], by rw [e9]; exact hR, zc_fr0⟩
              · refine lv_aload_n X.1 X.2.1 dX9_grant_105 rfl (lv_at hl 3 rfl) ?_
                refine lv_iload X.1 X.2.1 dX9_grant_106 (lv_at hl 0 rfl) ?_
                refine zr_callV (As := [.int (u 11 ((zn k)))]) (rest := []) X hW hl.1 md_X9_isUserInBook ms_X9_186 dX9_grant_108 (zc_s100 hS) rfl rfl rfl rfl (Nat.le_of_ble_eq_true rfl) ⟨Nat.le_of_ble_eq_true rfl, Nat.le_of_ble_eq_true rfl⟩ ⟨Nat.le_of_ble_eq_true rfl, Nat.le_of_ble_eq_true rfl⟩ (c_X9_isUserInBook l Y N0 ad sh g u hS hN hB (u 11 ((zn k)))) (fun v9 ad9 sh9 g9 H locs hp hW => ?_)
                rcases hp with ⟨rfl, rfl, rfl, ⟨h_10, h9⟩ | ⟨h_10, h9⟩⟩
                · subst h9
                  have h_10 : zs_us (u 11 ((zn k))) ∧ zs_bk u (u 11 ((zn k))) := h_10
                  refine zr_if_ne (a := 1) (tgt := 117) X dX9_grant_111 (by decide) (by decide) (fun _ => ?_) (fun c9 => absurd c9 (by decide))
                  refine lv_aload_n X.1 X.2.1 dX9_grant_117 rfl (lv_at hl 3 rfl) ?_
                  refine lv_aload X.1 X.2.1 dX9_grant_118 (lv_at hl 1 rfl) ?_
                  refine zr_get (r := (200 + 2 * (zn cl))) (v := .int (u 13 ((zn cl)))) X hW fs_X9_236_1 dX9_grant_120 hq_7.1 rfl rfl (congrArg Value.int hq_7.2.2.2.2.1) ?_
                  refine lv_aload_n X.1 X.2.1 dX9_grant_123 rfl (lv_at hl 3 rfl) ?_
                  refine zr_get (r := 100) (v := .ref (ad 101)) X hW fs_X9_9_8 dX9_grant_124 (zc_s100 hS) rfl rfl rfl ?_
                  refine lv_iconst (v := 0) X.1 X.2.1 dX9_grant_127 (by decide) ?_
                  refine zr_iald (r := 101) (v := u 1 0) X hW dX9_grant_128 (zc_s101 hS) rfl rfl (zi_vp (by decide)) ((show g 101 (0 : Int32).toNatClampNeg = g 101 0 from rfl).trans (hN0 _ _ _ _ rfl)) ?_
                  refine zr_callV (As := [.int (u 13 ((zn cl))), .int (u 1 0)]) (rest := []) X hW hl.1 md_X9_near ms_X9_205 dX9_grant_129 (zc_s100 hS) rfl rfl rfl rfl (Nat.le_of_ble_eq_true rfl) ⟨Nat.le_of_ble_eq_true rfl, Nat.le_of_ble_eq_true rfl⟩ ⟨Nat.le_of_ble_eq_true rfl, Nat.le_of_ble_eq_true rfl⟩ (c_X9_near l Y N0 ad sh g u hS hN hI (u 13 ((zn cl))) (u 1 0)) (fun v9 ad9 sh9 g9 H locs hp hW => ?_)
                  rcases hp with ⟨rfl, rfl, rfl, ⟨h_11, h9⟩ | ⟨h_11, h9⟩⟩
                  · subst h9
                    have h_11 : zs_nr u (u 13 ((zn cl))) (u 1 0) := h_11
                    refine zr_if_eq (a := 1) (tgt := 149) X dX9_grant_132 (by decide) (by decide) (fun c9 => absurd c9 (by decide)) (fun _ => ?_)
                    refine lv_aload_n X.1 X.2.1 dX9_grant_135 rfl (lv_at hl 3 rfl) ?_
                    refine zr_get (r := 100) (v := .ref (ad 101)) X hW fs_X9_9_8 dX9_grant_136 (zc_s100 hS) rfl rfl rfl ?_
                    refine lv_iconst (v := 0) X.1 X.2.1 dX9_grant_139 (by decide) ?_
                    refine zr_iald (r := 101) (v := u 1 0) X hW dX9_grant_140 (zc_s101 hS) rfl rfl (zi_vp (by decide)) ((show g 101 (0 : Int32).toNatClampNeg = g 101 0 from rfl).trans (hN0 _ _ _ _ rfl)) ?_
                    refine lv_aload X.1 X.2.1 dX9_grant_141 (lv_at hl 2 rfl) ?_
                    refine zr_get (r := (200 + 2 * (zn k))) (v := .int (u 14 ((zn k)))) X hW fs_X9_237_6 dX9_grant_143 hq_5.1 rfl rfl (congrArg Value.int hq_5.2.2.2.2.2.1) ?_
                    refine zr_icmp_le (a := (u 1 0).toInt) (b := (u 14 ((zn k))).toInt) (tgt := 152) X dX9_grant_146 (by decide) rfl rfl (fun c_12 => ?_) (fun c_12 => ?_)
                    · refine lv_aload_n X.1 X.2.1 dX9_grant_152 rfl (lv_at hl 3 rfl) ?_
                      refine lv_iconst (v := 1) X.1 X.2.1 dX9_grant_153 (by decide) ?_
                      refine lv_iconst (v := 2) X.1 X.2.1 dX9_grant_154 (by decide) ?_
                      refine zr_callV (As := [.int 1, .int 2]) (rest := []) X hW hl.1 md_X9_hasRoom ms_X9_76 dX9_grant_155 (zc_s100 hS) rfl rfl rfl rfl (Nat.le_of_ble_eq_true rfl) ⟨Nat.le_of_ble_eq_true rfl, Nat.le_of_ble_eq_true rfl⟩ ⟨Nat.le_of_ble_eq_true rfl, Nat.le_of_ble_eq_true rfl⟩ (c_X9_hasRoom_12 l Y N0 ad sh g u hS hN hI) (fun v9 ad9 sh9 g9 H locs hp hW => ?_)
                      rcases hp with ⟨rfl, rfl, rfl, ⟨h_13, h9⟩ | ⟨h_13, h9⟩⟩
                      · subst h9
                        have h_13 : (u 0 2).toInt + 1 ≤ 200 ∧ (u 0 8).toInt + 2 ≤ 150 := h_13
                        refine zr_if_ne (a := 1) (tgt := 164) X dX9_grant_158 (by decide) (by decide) (fun _ => ?_) (fun c9 => absurd c9 (by decide))
                        refine lv_iload_n X.1 X.2.1 dX9_grant_164 rfl (lv_at hl 6 rfl) ?_
                        refine zr_if_ne (a := (t).toInt) (tgt := 176) X dX9_grant_165 (by decide) rfl (fun c_14 => ?_) (fun c_14 => ?_)
                        · refine lv_aload X.1 X.2.1 dX9_grant_176 (lv_at hl 2 rfl) ?_
                          refine zr_get (r := (200 + 2 * (zn k))) (v := .int (u 14 ((zn k)))) X hW fs_X9_237_6 dX9_grant_178 hq_5.1 rfl rfl (congrArg Value.int hq_5.2.2.2.2.2.1) ?_
                          refine lv_istore (lv' := [(9, .int (u 14 ((zn k)))), (8, .int (u 11 ((zn k)))), (7, .ref (ad (200 + 2 * (zn cl)))), (6, .ref (ad (200 + 2 * (zn k)))), (0, .ref (ad 100)), (1, .int k), (2, .int cl), (3, .int t), (4, .int nc), (5, .int li)]) X.1 X.2.1 dX9_grant_181 hl (by decide) rfl (fun ls hl => ?_)
                          refine lv_aload_n X.1 X.2.1 dX9_grant_183 rfl (lv_at hl 4 rfl) ?_
                          refine lv_iload X.1 X.2.1 dX9_grant_184 (lv_at hl 1 rfl) ?_
                          refine lv_iload_n X.1 X.2.1 dX9_grant_186 rfl (lv_at hl 7 rfl) ?_
                          refine lv_iload X.1 X.2.1 dX9_grant_187 (lv_at hl 9 rfl) ?_
                          refine zr_callV (As := [.int (u 11 ((zn k))), .int t, .int li]) (rest := []) X hW hl.1 md_X9_firstEnd ms_X9_208 dX9_grant_189 (zc_s100 hS) rfl rfl rfl rfl (Nat.le_of_ble_eq_true rfl) ⟨Nat.le_of_ble_eq_true rfl, Nat.le_of_ble_eq_true rfl⟩ ⟨Nat.le_of_ble_eq_true rfl, Nat.le_of_ble_eq_true rfl⟩ (c_X9_firstEnd l Y N0 ad sh g u hS hN (u 11 ((zn k))) t li (by omega) (by omega)) (fun v9 ad9 sh9 g9 H locs hp hW => ?_)
                          obtain ⟨rfl, rfl, rfl, _, rfl, rfl⟩ := hp
                          refine lv_iload X.1 X.2.1 dX9_grant_192 (lv_at hl 0 rfl) ?_
                          refine zr_min X hl.1 (zt_in (zt_t1 71 rfl) rfl) dX9_grant_194 (Nat.le_of_ble_eq_true rfl) (Nat.le_of_ble_eq_true rfl) (Nat.le_of_ble_eq_true rfl) (Nat.le_of_ble_eq_true rfl) (Nat.le_of_ble_eq_true rfl) ?_
                          refine lv_istore (lv' := [(10, .int (zs_mi (u 1 0 + zs_mi li (zs_mi (u 6 (zn (u 11 ((zn k))))) (u 6 (zn t)))) (u 14 ((zn k))))), (9, .int (u 14 ((zn k)))), (8, .int (u 11 ((zn k)))), (7, .ref (ad (200 + 2 * (zn cl)))), (6, .ref (ad (200 + 2 * (zn k)))), (0, .ref (ad 100)), (1, .int k), (2, .int cl), (3, .int t), (4, .int nc), (5, .int li)]) X.1 X.2.1 dX9_grant_197 hl (by decide) rfl (fun ls hl => ?_)
                          refine lv_iload_n X.1 X.2.1 dX9_grant_199 rfl (lv_at hl 8 rfl) ?_
                          refine zr_if_ne (a := (t).toInt) (tgt := 211) X dX9_grant_200 (by decide) rfl (fun _ => ?_) (fun c9 => absurd c9 (by omega))
                          refine lv_iload X.1 X.2.1 dX9_grant_211 (lv_at hl 0 rfl) ?_
                          refine lv_istore (lv' := [(11, .int (zs_mi (u 1 0 + zs_mi li (zs_mi (u 6 (zn (u 11 ((zn k))))) (u 6 (zn t)))) (u 14 ((zn k))))), (10, .int (zs_mi (u 1 0 + zs_mi li (zs_mi (u 6 (zn (u 11 ((zn k))))) (u 6 (zn t)))) (u 14 ((zn k))))), (9, .int (u 14 ((zn k)))), (8, .int (u 11 ((zn k)))), (7, .ref (ad (200 + 2 * (zn cl)))), (6, .ref (ad (200 + 2 * (zn k)))), (0, .ref (ad 100)), (1, .int k), (2, .int cl), (3, .int t), (4, .int nc), (5, .int li)]) X.1 X.2.1 dX9_grant_213 hl (by decide) rfl (fun ls hl => ?_)
                          refine lv_aload_n X.1 X.2.1 dX9_grant_215 rfl (lv_at hl 6 rfl) ?_
                          refine lv_iload X.1 X.2.1 dX9_grant_216 (lv_at hl 3 rfl) ?_
                          refine lv_iload_n X.1 X.2.1 dX9_grant_218 rfl (lv_at hl 9 rfl) ?_
                          refine lv_iload X.1 X.2.1 dX9_grant_219 (lv_at hl 10 rfl) ?_
                          refine lv_aload X.1 X.2.1 dX9_grant_221 (lv_at hl 5 rfl) ?_
                          refine zr_get (r := (200 + 2 * (zn k))) (v := .int (u 12 ((zn k)))) X hW fs_X9_220_6 dX9_grant_223 hq_5.1 rfl rfl (congrArg Value.int hq_5.2.2.2.1) ?_
                          refine lv_iload X.1 X.2.1 dX9_grant_226 (lv_at hl 1 rfl) ?_
                          refine lv_iload X.1 X.2.1 dX9_grant_228 (lv_at hl 0 rfl) ?_
                          refine zr_callV (As := [.int (u 11 ((zn k))), .int t, .int nc, .int (u 12 ((zn k))), .int (zs_mi (u 1 0 + zs_mi li (zs_mi (u 6 (zn (u 11 ((zn k))))) (u 6 (zn t)))) (u 14 ((zn k)))), .int (zs_mi (u 1 0 + zs_mi li (zs_mi (u 6 (zn (u 11 ((zn k))))) (u 6 (zn t)))) (u 14 ((zn k))))]) (rest := []) X hW hl.1 md_X9_makeTicketAndPart ms_X9_212 dX9_grant_230 (zc_s100 hS) rfl rfl rfl rfl (Nat.le_of_ble_eq_true rfl) ⟨Nat.le_of_ble_eq_true rfl, Nat.le_of_ble_eq_true rfl⟩ ⟨Nat.le_of_ble_eq_true rfl, Nat.le_of_ble_eq_true rfl⟩ (c_X9_makeTicketAndPart l Y N0 ad sh g u hR (by omega) (u 11 ((zn k))) t nc (u 12 ((zn k))) (zs_mi (u 1 0 + zs_mi li (zs_mi (u 6 (zn (u 11 ((zn k))))) (u 6 (zn t)))) (u 14 ((zn k)))) (zs_mi (u 1 0 + zs_mi li (zs_mi (u 6 (zn (u 11 ((zn k))))) (u 6 (zn t)))) (u 14 ((zn k)))) (by omega)) (fun v9 ad9 sh9 g9 H locs hp hW => ?_)
                          obtain ⟨rfl, hR9, hf9⟩ := hp
                          have e9 : sp_grant k cl t nc li u = (u 0 8, zs_two u (u 11 ((zn k))) t nc (zs_mi (u 1 0 + zs_mi li (zs_mi (u 6 (zn (u 11 ((zn k))))) (u 6 (zn t)))) (u 14 ((zn k)))) (zs_mi (u 1 0 + zs_mi li (zs_mi (u 6 (zn (u 11 ((zn k))))) (u 6 (zn t)))) (u 14 ((zn k)))) (u 12 ((zn k)))) := (by unfold sp_grant; (repeat (first | refine (if_pos (by omega)).trans ?_ | refine (if_neg (by omega)).trans ?_)); unfold zs_gend; (first | rw [if_pos (by omega), if_pos (by omega), zs_mi3, zs_mimn] | rw [if_neg (by omega), if_neg (by omega), zs_mi3, zs_mimn]))
                          exact zr_iret X hW dX9_grant_233 (Nat.le_of_ble_eq_true rfl) (Nat.le_of_ble_eq_true rfl) ⟨by rw [e9], by rw [e9]; exact hR9, hf9⟩
                        · refine lv_aload X.1 X.2.1 dX9_grant_168 (lv_at hl 2 rfl) ?_
                          refine zr_get (r := (200 + 2 * (zn k))) (v := .int (u 15 ((zn k)))) X hW fs_X9_240_6 dX9_grant_170 hq_5.1 rfl rfl (congrArg Value.int hq_5.2.2.2.2.2.2) ?_
                          refine lv_goto (tgt := 181) X.1 X.2.1 dX9_grant_173 (by decide) ?_
                          refine lv_istore (lv' := [(9, .int (u 15 ((zn k)))), (8, .int (u 11 ((zn k)))), (7, .ref (ad (200 + 2 * (zn cl)))), (6, .ref (ad (200 + 2 * (zn k)))), (0, .ref (ad 100)), (1, .int k), (2, .int cl), (3, .int t), (4, .int nc), (5, .int li)]) X.1 X.2.1 dX9_grant_181 hl (by decide) rfl (fun ls hl => ?_)
                          refine lv_aload_n X.1 X.2.1 dX9_grant_183 rfl (lv_at hl 4 rfl) ?_
                          refine lv_iload X.1 X.2.1 dX9_grant_184 (lv_at hl 1 rfl) ?_
                          refine lv_iload_n X.1 X.2.1 dX9_grant_186 rfl (lv_at hl 7 rfl) ?_
                          refine lv_iload X.1 X.2.1 dX9_grant_187 (lv_at hl 9 rfl) ?_
                          refine zr_callV (As := [.int (u 11 ((zn k))), .int t, .int li]) (rest := []) X hW hl.1 md_X9_firstEnd ms_X9_208 dX9_grant_189 (zc_s100 hS) rfl rfl rfl rfl (Nat.le_of_ble_eq_true rfl) ⟨Nat.le_of_ble_eq_true rfl, Nat.le_of_ble_eq_true rfl⟩ ⟨Nat.le_of_ble_eq_true rfl, Nat.le_of_ble_eq_true rfl⟩ (c_X9_firstEnd l Y N0 ad sh g u hS hN (u 11 ((zn k))) t li (by omega) (by omega)) (fun v9 ad9 sh9 g9 H locs hp hW => ?_)
                          obtain ⟨rfl, rfl, rfl, _, rfl, rfl⟩ := hp
                          refine lv_iload X.1 X.2.1 dX9_grant_192 (lv_at hl 0 rfl) ?_
                          refine zr_min X hl.1 (zt_in (zt_t1 71 rfl) rfl) dX9_grant_194 (Nat.le_of_ble_eq_true rfl) (Nat.le_of_ble_eq_true rfl) (Nat.le_of_ble_eq_true rfl) (Nat.le_of_ble_eq_true rfl) (Nat.le_of_ble_eq_true rfl) ?_
                          refine lv_istore (lv' := [(10, .int (zs_mi (u 1 0 + zs_mi li (zs_mi (u 6 (zn (u 11 ((zn k))))) (u 6 (zn t)))) (u 15 ((zn k))))), (9, .int (u 15 ((zn k)))), (8, .int (u 11 ((zn k)))), (7, .ref (ad (200 + 2 * (zn cl)))), (6, .ref (ad (200 + 2 * (zn k)))), (0, .ref (ad 100)), (1, .int k), (2, .int cl), (3, .int t), (4, .int nc), (5, .int li)]) X.1 X.2.1 dX9_grant_197 hl (by decide) rfl (fun ls hl => ?_)
                          refine lv_iload_n X.1 X.2.1 dX9_grant_199 rfl (lv_at hl 8 rfl) ?_
                          refine zr_if_ne (a := (t).toInt) (tgt := 211) X dX9_grant_200 (by decide) rfl (fun c9 => absurd c9 (by omega)) (fun _ => ?_)
                          refine lv_aload X.1 X.2.1 dX9_grant_203 (lv_at hl 4 rfl) ?_
                          refine zr_get (r := (200 + 2 * (zn k))) (v := .int (u 15 ((zn k)))) X hW fs_X9_240_6 dX9_grant_205 hq_5.1 rfl rfl (congrArg Value.int hq_5.2.2.2.2.2.2) ?_
                          refine lv_goto (tgt := 213) X.1 X.2.1 dX9_grant_208 (by decide) ?_
                          refine lv_istore (lv' := [(11, .int (u 15 ((zn k)))), (10, .int (zs_mi (u 1 0 + zs_mi li (zs_mi (u 6 (zn (u 11 ((zn k))))) (u 6 (zn t)))) (u 15 ((zn k))))), (9, .int (u 15 ((zn k)))), (8, .int (u 11 ((zn k)))), (7, .ref (ad (200 + 2 * (zn cl)))), (6, .ref (ad (200 + 2 * (zn k)))), (0, .ref (ad 100)), (1, .int k), (2, .int cl), (3, .int t), (4, .int nc), (5, .int li)]) X.1 X.2.1 dX9_grant_213 hl (by decide) rfl (fun ls hl => ?_)
                          refine lv_aload_n X.1 X.2.1 dX9_grant_215 rfl (lv_at hl 6 rfl) ?_
                          refine lv_iload X.1 X.2.1 dX9_grant_216 (lv_at hl 3 rfl) ?_
                          refine lv_iload_n X.1 X.2.1 dX9_grant_218 rfl (lv_at hl 9 rfl) ?_
                          refine lv_iload X.1 X.2.1 dX9_grant_219 (lv_at hl 10 rfl) ?_
                          refine lv_aload X.1 X.2.1 dX9_grant_221 (lv_at hl 5 rfl) ?_
                          refine zr_get (r := (200 + 2 * (zn k))) (v := .int (u 12 ((zn k)))) X hW fs_X9_220_6 dX9_grant_223 hq_5.1 rfl rfl (congrArg Value.int hq_5.2.2.2.1) ?_
                          refine lv_iload X.1 X.2.1 dX9_grant_226 (lv_at hl 1 rfl) ?_
                          refine lv_iload X.1 X.2.1 dX9_grant_228 (lv_at hl 0 rfl) ?_
                          refine zr_callV (As := [.int (u 11 ((zn k))), .int t, .int nc, .int (u 12 ((zn k))), .int (zs_mi (u 1 0 + zs_mi li (zs_mi (u 6 (zn (u 11 ((zn k))))) (u 6 (zn t)))) (u 15 ((zn k)))), .int (u 15 ((zn k)))]) (rest := []) X hW hl.1 md_X9_makeTicketAndPart ms_X9_212 dX9_grant_230 (zc_s100 hS) rfl rfl rfl rfl (Nat.le_of_ble_eq_true rfl) ⟨Nat.le_of_ble_eq_true rfl, Nat.le_of_ble_eq_true rfl⟩ ⟨Nat.le_of_ble_eq_true rfl, Nat.le_of_ble_eq_true rfl⟩ (c_X9_makeTicketAndPart l Y N0 ad sh g u hR (by omega) (u 11 ((zn k))) t nc (u 12 ((zn k))) (zs_mi (u 1 0 + zs_mi li (zs_mi (u 6 (zn (u 11 ((zn k))))) (u 6 (zn t)))) (u 15 ((zn k)))) (u 15 ((zn k))) (by omega)) (fun v9 ad9 sh9 g9 H locs hp hW => ?_)
                          obtain ⟨rfl, hR9, hf9⟩ := hp
                          have e9 : sp_grant k cl t nc li u = (u 0 8, zs_two u (u 11 ((zn k))) t nc (zs_mi (u 1 0 + zs_mi li (zs_mi (u 6 (zn (u 11 ((zn k))))) (u 6 (zn t)))) (u 15 ((zn k)))) (u 15 ((zn k))) (u 12 ((zn k)))) := (by unfold sp_grant; (repeat (first | refine (if_pos (by omega)).trans ?_ | refine (if_neg (by omega)).trans ?_)); unfold zs_gend; (first | rw [if_pos (by omega), if_pos (by omega), zs_mi3, zs_mimn] | rw [if_neg (by omega), if_neg (by omega), zs_mi3, zs_mimn]))
                          exact zr_iret X hW dX9_grant_233 (Nat.le_of_ble_eq_true rfl) (Nat.le_of_ble_eq_true rfl) ⟨by rw [e9], by rw [e9]; exact hR9, hf9⟩
                      · subst h9
                        have h_13 : ¬ ((u 0 2).toInt + 1 ≤ 200 ∧ (u 0 8).toInt + 2 ≤ 150) := h_13
                        refine zr_if_ne (a := 0) (tgt := 164) X dX9_grant_158 (by decide) (by decide) (fun c9 => absurd c9 (by decide)) (fun _ => ?_)
                        refine lv_bipush (v := (-7)) X.1 X.2.1 dX9_grant_161 (by decide) ?_
                        have e9 : sp_grant k cl t nc li u = ((-7), u) := (by unfold sp_grant; (repeat (first | refine (if_pos (by omega)).trans ?_ | refine (if_neg (by omega)).trans ?_)); rfl)
                        exact zr_iret X hW dX9_grant_163 (Nat.le_of_ble_eq_true rfl) (Nat.le_of_ble_eq_true rfl) ⟨by rw [e9], by rw [e9]; exact hR, zc_fr0⟩
                    · refine lv_bipush (v := (-4)) X.1 X.2.1 dX9_grant_149 (by decide) ?_
                      have e9 : sp_grant k cl t nc li u = ((-4), u) := (by unfold sp_grant; (repeat (first | refine (if_pos (by omega)).trans ?_ | refine (if_neg (by omega)).trans ?_)); rfl)
                      exact zr_iret X hW dX9_grant_151 (Nat.le_of_ble_eq_true rfl) (Nat.le_of_ble_eq_true rfl) ⟨by rw [e9], by rw [e9]; exact hR, zc_fr0⟩
                  · subst h9
                    have h_11 : ¬ (zs_nr u (u 13 ((zn cl))) (u 1 0)) := h_11
                    refine zr_if_eq (a := 0) (tgt := 149) X dX9_grant_132 (by decide) (by decide) (fun _ => ?_) (fun c9 => absurd c9 (by decide))
                    refine lv_bipush (v := (-4)) X.1 X.2.1 dX9_grant_149 (by decide) ?_
                    have e9 : sp_grant k cl t nc li u = ((-4), u) := (by unfold sp_grant; (repeat (first | refine (if_pos (by omega)).trans ?_ | refine (if_neg (by omega)).trans ?_)); rfl)
                    exact zr_iret X hW dX9_grant_151 (Nat.le_of_ble_eq_true rfl) (Nat.le_of_ble_eq_true rfl) ⟨by rw [e9], by rw [e9]; exact hR, zc_fr0⟩
                · subst h9
                  have h_10 : ¬ (zs_us (u 11 ((zn k))) ∧ zs_bk u (u 11 ((zn k)))) := h_10
                  refine zr_if_ne (a := 0) (tgt := 117) X dX9_grant_111 (by decide) (by decide) (fun c9 => absurd c9 (by decide)) (fun _ => ?_)
                  refine lv_bipush (v := (-3)) X.1 X.2.1 dX9_grant_114 (by decide) ?_
                  have e9 : sp_grant k cl t nc li u = ((-3), u) := (by unfold sp_grant; (repeat (first | refine (if_pos (by omega)).trans ?_ | refine (if_neg (by omega)).trans ?_)); rfl)
                  exact zr_iret X hW dX9_grant_116 (Nat.le_of_ble_eq_true rfl) (Nat.le_of_ble_eq_true rfl) ⟨by rw [e9], by rw [e9]; exact hR, zc_fr0⟩
          · subst h8
            have h_6 : ¬ zs_op u (u 12 ((zn k))) cl 4 := h_6
            refine lv_astoreN (lv' := [(7, .null), (6, .ref (ad (200 + 2 * (zn k)))), (0, .ref (ad 100)), (1, .int k), (2, .int cl), (3, .int t), (4, .int nc), (5, .int li)]) X.1 X.2.1 dX9_grant_62 hl (by decide) rfl (fun ls hl => ?_)
            refine lv_aload X.1 X.2.1 dX9_grant_64 (lv_at hl 1 rfl) ?_
            refine lv_ifnull X.1 X.2.1 dX9_grant_66 ?_
            refine lv_aloadN X.1 X.2.1 dX9_grant_69 (lv_at hl 0 rfl) ?_
            refine lv_ifnonnullN X.1 X.2.1 dX9_grant_71 ?_
            refine lv_bipush (v := (-2)) X.1 X.2.1 dX9_grant_74 (by decide) ?_
            have e9 : sp_grant k cl t nc li u = ((-2), u) := (by unfold sp_grant; (repeat (first | refine (if_pos (by omega)).trans ?_ | refine (if_neg (by omega)).trans ?_)); rfl)
            exact zr_iret X hW dX9_grant_76 (Nat.le_of_ble_eq_true rfl) (Nat.le_of_ble_eq_true rfl) ⟨by rw [e9], by rw [e9]; exact hR, zc_fr0⟩
        · subst h8
          have h_4 : ¬ zs_op u (u 5 0) k 2 := h_4
          refine lv_astoreN (lv' := [(6, .null), (0, .ref (ad 100)), (1, .int k), (2, .int cl), (3, .int t), (4, .int nc), (5, .int li)]) X.1 X.2.1 dX9_grant_41 hl (by decide) rfl (fun ls hl => ?_)
          refine lv_aloadN X.1 X.2.1 dX9_grant_43 (lv_at hl 0 rfl) ?_
          refine lv_ifnonnullN X.1 X.2.1 dX9_grant_45 ?_
          refine lv_null X.1 X.2.1 dX9_grant_48 ?_
          refine lv_goto (tgt := 62) X.1 X.2.1 dX9_grant_49 (by decide) ?_
          refine lv_astoreN (lv' := [(7, .null), (6, .null), (0, .ref (ad 100)), (1, .int k), (2, .int cl), (3, .int t), (4, .int nc), (5, .int li)]) X.1 X.2.1 dX9_grant_62 hl (by decide) rfl (fun ls hl => ?_)
          refine lv_aloadN X.1 X.2.1 dX9_grant_64 (lv_at hl 1 rfl) ?_
          refine lv_ifnullN (tgt := 74) X.1 X.2.1 dX9_grant_66 (by decide) ?_
          refine lv_bipush (v := (-2)) X.1 X.2.1 dX9_grant_74 (by decide) ?_
          have e9 : sp_grant k cl t nc li u = ((-2), u) := (by unfold sp_grant; (repeat (first | refine (if_pos (by omega)).trans ?_ | refine (if_neg (by omega)).trans ?_)); rfl)
          exact zr_iret X hW dX9_grant_76 (Nat.le_of_ble_eq_true rfl) (Nat.le_of_ble_eq_true rfl) ⟨by rw [e9], by rw [e9]; exact hR, zc_fr0⟩
      · refine lv_iconst (v := (-1)) X.1 X.2.1 dX9_grant_25 (by decide) ?_
        have e9 : sp_grant k cl t nc li u = ((-1), u) := (by unfold sp_grant; (repeat (first | refine (if_pos (by omega)).trans ?_ | refine (if_neg (by omega)).trans ?_)); rfl)
        exact zr_iret X hW dX9_grant_26 (Nat.le_of_ble_eq_true rfl) (Nat.le_of_ble_eq_true rfl) ⟨by rw [e9], by rw [e9]; exact hR, zc_fr0⟩
    · subst h9
      have h_2 : ¬ (zs_bk u 0) := h_2
      refine zr_if_eq (a := 0) (tgt := 25) X dX9_grant_16 (by decide) (by decide) (fun _ => ?_) (fun c9 => absurd c9 (by decide))
      refine lv_iconst (v := (-1)) X.1 X.2.1 dX9_grant_25 (by decide) ?_
      have e9 : sp_grant k cl t nc li u = ((-1), u) := (by unfold sp_grant; (repeat (first | refine (if_pos (by omega)).trans ?_ | refine (if_neg (by omega)).trans ?_)); rfl)
      exact zr_iret X hW dX9_grant_26 (Nat.le_of_ble_eq_true rfl) (Nat.le_of_ble_eq_true rfl) ⟨by rw [e9], by rw [e9]; exact hR, zc_fr0⟩
  · subst h9
    have h_1 : ¬ (zi_in t 0 1 ∧ zs_bk u t) := h_1
    refine zr_if_eq (a := 0) (tgt := 25) X dX9_grant_5 (by decide) (by decide) (fun _ => ?_) (fun c9 => absurd c9 (by decide))
    refine lv_iconst (v := (-1)) X.1 X.2.1 dX9_grant_25 (by decide) ?_
    have e9 : sp_grant k cl t nc li u = ((-1), u) := (by unfold sp_grant; (repeat (first | refine (if_pos (by omega)).trans ?_ | refine (if_neg (by omega)).trans ?_)); rfl)
    exact zr_iret X hW dX9_grant_26 (Nat.le_of_ble_eq_true rfl) (Nat.le_of_ble_eq_true rfl) ⟨by rw [e9], by rw [e9]; exact hR, zc_fr0⟩
