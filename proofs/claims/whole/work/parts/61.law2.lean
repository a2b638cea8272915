set_option maxHeartbeats 4000000 in
set_option maxRecDepth 100000 in
/-- enrol -/
theorem lw_c0 {p : Program} {e : Env} {s : State} {m : MethodId} {below : List Frame} {meth : Method} {c : Code} {Q : State → Prop} (l : Launch) (Y : zw_Y) {b L : Nat} {xs : Nat → Int32} (hL : L ≤ 3073) (hbl : b < s.heap.size) (hX : va_X b L xs s s.heap) (X : zw_X p m meth c cL_law 4 (some .boolean) s #[Value.ref b] RL Y) (ax am j : Nat) (hj : j + 6 ≤ L) (ad : Nat → Nat) (sh : Nat → Option zw_Sh) (g u : zm_T) (H : Heap) (locs : List Loc) (cells slots : Nat) (ls : Array Slot) (h9 : lw_I Y s ax am ad sh g u H locs) (hcells : cells + 2 ≤ 600000) (hslots : slots + 11 ≤ 7302250) (hl : lv_has ls 4 [(3, .int (nI j)), (2, .ref am), (1, .ref ax), (0, .ref b)])
    (kk : ∀ (ad' : Nat → Nat) (sh' : Nat → Option zw_Sh) (g' u' : zm_T) (H' : Heap) (locs' : List Loc), lw_I Y s ax am ad' sh' g' u' H' locs' → W p l e room_1 s m #[Value.ref b] below meth c H' locs' (cells + 2) (slots + 11) Q (F0 m 826 ls [])) : W p l e room_1 s m #[Value.ref b] below meth c H locs cells slots Q (F0 m 136 ls []) := by
  obtain ⟨hW, hM, hR, hgm, hI, hax, ham⟩ := h9
  have hbA : ¬ (fun q : Nat => s.heap.size ≤ q) b := Nat.not_le.mpr hbl
  refine lv_aload_n X.1 X.2.1 dL_law_136 rfl (lv_at hl 2 rfl) ?_
  refine lv_aload_n X.1 X.2.1 dL_law_137 rfl (lv_at hl 3 rfl) ?_
  refine lv_iload_n X.1 X.2.1 dL_law_138 rfl (lv_at hl 0 rfl) ?_
  refine lv_iconst (v := 1) X.1 X.2.1 dL_law_139 (by decide) ?_
  refine lv_iadd X.1 X.2.1 dL_law_140 ?_
  refine zr_eqi (v := nI (j + 1)) (nI_add j 1) ?_
  refine va_sld X.1 X.2.1 hX hbl hbA hW.2.1 (zi_vp (by rw [nI_toInt (by omega)]; omega)) dL_law_141 ?_
  refine zr_callV (As := [.int (xs (nI (j + 1)).toNatClampNeg)]) (rest := []) X hW hl.1 md_X9_enrol ms_L_21 dL_law_142 (zc_s100 hR.1) rfl rfl rfl (by rw [hax] <;> rfl) (Nat.le_of_ble_eq_true rfl) ⟨Nat.le_of_ble_eq_true rfl, Nat.le_of_ble_eq_true rfl⟩ ⟨by show cells + 0 ≤ 600000; omega, by show slots + 0 ≤ 7302250; omega⟩ (c_X9_enrol l Y _ ad sh g u hR hI (xs (nI (j + 1)).toNatClampNeg)) (fun v9 ad9 sh9 g9 H locs hp hW => ?_)
  obtain ⟨rfl, hR9, hf9⟩ := hp
  obtain ⟨ad1, rfl⟩ : ∃ z : Nat → Nat, z = ad9 := ⟨_, rfl⟩
  obtain ⟨sh1, rfl⟩ : ∃ z : Nat → Option zw_Sh, z = sh9 := ⟨_, rfl⟩
  obtain ⟨g1, rfl⟩ : ∃ z : zm_T, z = g9 := ⟨_, rfl⟩
  have hM1 : zm_S sh1 := zm_Sc hM (fun r hr => (hf9.2 r hr).1)
  have ham1 : ad1 0 = am := (hf9.1 0 (by omega)).trans ham
  have hax1 : ad1 100 = ax := (hf9.1 100 (by omega)).trans hax
  have hg1 : g1 = zm_mix u g1 := by
    funext r
    by_cases h9 : r < 100
    · rw [zm_mixl h9, (hf9.2 r h9).2, hgm, zm_mixl h9]
    · rw [zm_mixr (by omega)]
  have hW : zw_St Y s.heap.size ad1 sh1 (zm_mix u g1) s H locs := by rw [← hg1]; exact hW
  refine lv_aload_n X.1 X.2.1 dL_law_145 rfl (lv_at hl 1 rfl) ?_
  refine lv_aload_n X.1 X.2.1 dL_law_146 rfl (lv_at hl 3 rfl) ?_
  refine lv_iload_n X.1 X.2.1 dL_law_147 rfl (lv_at hl 0 rfl) ?_
  refine lv_iconst (v := 1) X.1 X.2.1 dL_law_148 (by decide) ?_
  refine lv_iadd X.1 X.2.1 dL_law_149 ?_
  refine zr_eqi (v := nI (j + 1)) (nI_add j 1) ?_
  refine va_sld X.1 X.2.1 hX hbl hbA hW.2.1 (zi_vp (by rw [nI_toInt (by omega)]; omega)) dL_law_150 ?_
  refine zr_callV (As := [.int (xs (nI (j + 1)).toNatClampNeg)]) (rest := [.int ((sp_enrol (xs (nI (j + 1)).toNatClampNeg) u).1)]) X hW hl.1 md_X10_enrol ms_L_25 dL_law_151 (zm_s0 hM1) rfl rfl rfl (by rw [ham1] <;> rfl) (Nat.le_of_ble_eq_true rfl) ⟨Nat.le_of_ble_eq_true rfl, Nat.le_of_ble_eq_true rfl⟩ ⟨by show cells + 0 + 0 ≤ 600000; omega, by show slots + 0 + 0 ≤ 7302250; omega⟩ (c_X10_enrol l Y _ ad1 sh1 u g1 hM1 (xs (nI (j + 1)).toNatClampNeg) hI) (fun v9 ad9 sh9 g9 H locs hp hW => ?_)
  obtain ⟨rfl, rfl, rfl, rfl⟩ := hp
  refine zr_icmp_eq (tgt := 826) X dL_law_154 (by decide) rfl rfl (fun _ => ?_) (fun c9 => absurd rfl c9)
  refine W.widen (k := cells + 2) (n := slots + 11) (by omega) (by omega) ?_
  exact kk _ _ _ (sp_enrol (xs (nI (j + 1)).toNatClampNeg) u).2 _ _ ⟨hW, hM1, zc_Rc hR9 (fun r hr => ⟨rfl, zm_mixr hr⟩), (zm_mixm (u' := u)).symm, (zI_enrol (xs (nI (j + 1)).toNatClampNeg) hI), hax1, ham1⟩

set_option maxHeartbeats 4000000 in
set_option maxRecDepth 100000 in
/-- remove -/
theorem lw_c1 {p : Program} {e : Env} {s : State} {m : MethodId} {below : List Frame} {meth : Method} {c : Code} {Q : State → Prop} (l : Launch) (Y : zw_Y) {b L : Nat} {xs : Nat → Int32} (hL : L ≤ 3073) (hbl : b < s.heap.size) (hX : va_X b L xs s s.heap) (X : zw_X p m meth c cL_law 4 (some .boolean) s #[Value.ref b] RL Y) (ax am j : Nat) (hj : j + 6 ≤ L) (ad : Nat → Nat) (sh : Nat → Option zw_Sh) (g u : zm_T) (H : Heap) (locs : List Loc) (cells slots : Nat) (ls : Array Slot) (h9 : lw_I Y s ax am ad sh g u H locs) (hcells : cells + 2 ≤ 600000) (hslots : slots + 11 ≤ 7302250) (hl : lv_has ls 4 [(3, .int (nI j)), (2, .ref am), (1, .ref ax), (0, .ref b)])
    (kk : ∀ (ad' : Nat → Nat) (sh' : Nat → Option zw_Sh) (g' u' : zm_T) (H' : Heap) (locs' : List Loc), lw_I Y s ax am ad' sh' g' u' H' locs' → W p l e room_1 s m #[Value.ref b] below meth c H' locs' (cells + 2) (slots + 11) Q (F0 m 826 ls [])) : W p l e room_1 s m #[Value.ref b] below meth c H locs cells slots Q (F0 m 159 ls []) := by
  obtain ⟨hW, hM, hR, hgm, hI, hax, ham⟩ := h9
  have hbA : ¬ (fun q : Nat => s.heap.size ≤ q) b := Nat.not_le.mpr hbl
  refine lv_aload_n X.1 X.2.1 dL_law_159 rfl (lv_at hl 2 rfl) ?_
  refine lv_aload_n X.1 X.2.1 dL_law_160 rfl (lv_at hl 3 rfl) ?_
  refine lv_iload_n X.1 X.2.1 dL_law_161 rfl (lv_at hl 0 rfl) ?_
  refine lv_iconst (v := 1) X.1 X.2.1 dL_law_162 (by decide) ?_
  refine lv_iadd X.1 X.2.1 dL_law_163 ?_
  refine zr_eqi (v := nI (j + 1)) (nI_add j 1) ?_
  refine va_sld X.1 X.2.1 hX hbl hbA hW.2.1 (zi_vp (by rw [nI_toInt (by omega)]; omega)) dL_law_164 ?_
  refine zr_callV (As := [.int (xs (nI (j + 1)).toNatClampNeg)]) (rest := []) X hW hl.1 md_X9_remove ms_L_26 dL_law_165 (zc_s100 hR.1) rfl rfl rfl (by rw [hax] <;> rfl) (Nat.le_of_ble_eq_true rfl) ⟨Nat.le_of_ble_eq_true rfl, Nat.le_of_ble_eq_true rfl⟩ ⟨by show cells + 0 ≤ 600000; omega, by show slots + 0 ≤ 7302250; omega⟩ (c_X9_remove l Y _ ad sh g u hR hI (xs (nI (j + 1)).toNatClampNeg)) (fun v9 ad9 sh9 g9 H locs hp hW => ?_)
  obtain ⟨rfl, hR9, hf9⟩ := hp
  obtain ⟨ad1, rfl⟩ : ∃ z : Nat → Nat, z = ad9 := ⟨_, rfl⟩
  obtain ⟨sh1, rfl⟩ : ∃ z : Nat → Option zw_Sh, z = sh9 := ⟨_, rfl⟩
  obtain ⟨g1, rfl⟩ : ∃ z : zm_T, z = g9 := ⟨_, rfl⟩
  have hM1 : zm_S sh1 := zm_Sc hM (fun r hr => (hf9.2 r hr).1)
  have ham1 : ad1 0 = am := (hf9.1 0 (by omega)).trans ham
  have hax1 : ad1 100 = ax := (hf9.1 100 (by omega)).trans hax
  have hg1 : g1 = zm_mix u g1 := by
    funext r
    by_cases h9 : r < 100
    · rw [zm_mixl h9, (hf9.2 r h9).2, hgm, zm_mixl h9]
    · rw [zm_mixr (by omega)]
  have hW : zw_St Y s.heap.size ad1 sh1 (zm_mix u g1) s H locs := by rw [← hg1]; exact hW
  refine lv_aload_n X.1 X.2.1 dL_law_168 rfl (lv_at hl 1 rfl) ?_
  refine lv_aload_n X.1 X.2.1 dL_law_169 rfl (lv_at hl 3 rfl) ?_
  refine lv_iload_n X.1 X.2.1 dL_law_170 rfl (lv_at hl 0 rfl) ?_
  refine lv_iconst (v := 1) X.1 X.2.1 dL_law_171 (by decide) ?_
  refine lv_iadd X.1 X.2.1 dL_law_172 ?_
  refine zr_eqi (v := nI (j + 1)) (nI_add j 1) ?_
  refine va_sld X.1 X.2.1 hX hbl hbA hW.2.1 (zi_vp (by rw [nI_toInt (by omega)]; omega)) dL_law_173 ?_
  refine zr_callV (As := [.int (xs (nI (j + 1)).toNatClampNeg)]) (rest := [.int ((sp_remove (xs (nI (j + 1)).toNatClampNeg) u).1)]) X hW hl.1 md_X10_remove ms_L_30 dL_law_174 (zm_s0 hM1) rfl rfl rfl (by rw [ham1] <;> rfl) (Nat.le_of_ble_eq_true rfl) ⟨Nat.le_of_ble_eq_true rfl, Nat.le_of_ble_eq_true rfl⟩ ⟨by show cells + 0 + 0 ≤ 600000; omega, by show slots + 0 + 0 ≤ 7302250; omega⟩ (c_X10_remove l Y _ ad1 sh1 u g1 hM1 (xs (nI (j + 1)).toNatClampNeg) hI) (fun v9 ad9 sh9 g9 H locs hp hW => ?_)
  obtain ⟨rfl, rfl, rfl, rfl⟩ := hp
  refine zr_icmp_eq (tgt := 826) X dL_law_177 (by decide) rfl rfl (fun _ => ?_) (fun c9 => absurd rfl c9)
  refine W.widen (k := cells + 2) (n := slots + 11) (by omega) (by omega) ?_
  exact kk _ _ _ (sp_remove (xs (nI (j + 1)).toNatClampNeg) u).2 _ _ ⟨hW, hM1, zc_Rc hR9 (fun r hr => ⟨rfl, zm_mixr hr⟩), (zm_mixm (u' := u)).symm, (zI_remove (xs (nI (j + 1)).toNatClampNeg) hI), hax1, ham1⟩

set_option maxHeartbeats 4000000 in
set_option maxRecDepth 100000 in
/-- limit -/
theorem lw_c2 {p : Program} {e : Env} {s : State} {m : MethodId} {below : List Frame} {meth : Method} {c : Code} {Q : State → Prop} (l : Launch) (Y : zw_Y) {b L : Nat} {xs : Nat → Int32} (hL : L ≤ 3073) (hbl : b < s.heap.size) (hX : va_X b L xs s s.heap) (X : zw_X p m meth c cL_law 4 (some .boolean) s #[Value.ref b] RL Y) (ax am j : Nat) (hj : j + 6 ≤ L) (ad : Nat → Nat) (sh : Nat → Option zw_Sh) (g u : zm_T) (H : Heap) (locs : List Loc) (cells slots : Nat) (ls : Array Slot) (h9 : lw_I Y s ax am ad sh g u H locs) (hcells : cells + 2 ≤ 600000) (hslots : slots + 11 ≤ 7302250) (hl : lv_has ls 4 [(3, .int (nI j)), (2, .ref am), (1, .ref ax), (0, .ref b)])
    (kk : ∀ (ad' : Nat → Nat) (sh' : Nat → Option zw_Sh) (g' u' : zm_T) (H' : Heap) (locs' : List Loc), lw_I Y s ax am ad' sh' g' u' H' locs' → W p l e room_1 s m #[Value.ref b] below meth c H' locs' (cells + 2) (slots + 11) Q (F0 m 826 ls [])) : W p l e room_1 s m #[Value.ref b] below meth c H locs cells slots Q (F0 m 182 ls []) := by
  obtain ⟨hW, hM, hR, hgm, hI, hax, ham⟩ := h9
  have hbA : ¬ (fun q : Nat => s.heap.size ≤ q) b := Nat.not_le.mpr hbl
  refine lv_aload_n X.1 X.2.1 dL_law_182 rfl (lv_at hl 2 rfl) ?_
  refine lv_aload_n X.1 X.2.1 dL_law_183 rfl (lv_at hl 3 rfl) ?_
  refine lv_iload_n X.1 X.2.1 dL_law_184 rfl (lv_at hl 0 rfl) ?_
  refine lv_iconst (v := 1) X.1 X.2.1 dL_law_185 (by decide) ?_
  refine lv_iadd X.1 X.2.1 dL_law_186 ?_
  refine zr_eqi (v := nI (j + 1)) (nI_add j 1) ?_
  refine va_sld X.1 X.2.1 hX hbl hbA hW.2.1 (zi_vp (by rw [nI_toInt (by omega)]; omega)) dL_law_187 ?_
  refine lv_aload_n X.1 X.2.1 dL_law_188 rfl (lv_at hl 3 rfl) ?_
  refine lv_iload_n X.1 X.2.1 dL_law_189 rfl (lv_at hl 0 rfl) ?_
  refine lv_iconst (v := 2) X.1 X.2.1 dL_law_190 (by decide) ?_
  refine lv_iadd X.1 X.2.1 dL_law_191 ?_
  refine zr_eqi (v := nI (j + 2)) (nI_add j 2) ?_
  refine va_sld X.1 X.2.1 hX hbl hbA hW.2.1 (zi_vp (by rw [nI_toInt (by omega)]; omega)) dL_law_192 ?_
  refine zr_callV (As := [.int (xs (nI (j + 1)).toNatClampNeg), .int (xs (nI (j + 2)).toNatClampNeg)]) (rest := []) X hW hl.1 md_X9_limit ms_L_31 dL_law_193 (zc_s100 hR.1) rfl rfl rfl (by rw [hax] <;> rfl) (Nat.le_of_ble_eq_true rfl) ⟨Nat.le_of_ble_eq_true rfl, Nat.le_of_ble_eq_true rfl⟩ ⟨by show cells + 0 ≤ 600000; omega, by show slots + 0 ≤ 7302250; omega⟩ (c_X9_limit l Y _ ad sh g u hR hI (xs (nI (j + 1)).toNatClampNeg) (xs (nI (j + 2)).toNatClampNeg)) (fun v9 ad9 sh9 g9 H locs hp hW => ?_)
  obtain ⟨rfl, hR9, hf9⟩ := hp
  obtain ⟨ad1, rfl⟩ : ∃ z : Nat → Nat, z = ad9 := ⟨_, rfl⟩
  obtain ⟨sh1, rfl⟩ : ∃ z : Nat → Option zw_Sh, z = sh9 := ⟨_, rfl⟩
  obtain ⟨g1, rfl⟩ : ∃ z : zm_T, z = g9 := ⟨_, rfl⟩
  have hM1 : zm_S sh1 := zm_Sc hM (fun r hr => (hf9.2 r hr).1)
  have ham1 : ad1 0 = am := (hf9.1 0 (by omega)).trans ham
  have hax1 : ad1 100 = ax := (hf9.1 100 (by omega)).trans hax
  have hg1 : g1 = zm_mix u g1 := by
    funext r
    by_cases h9 : r < 100
    · rw [zm_mixl h9, (hf9.2 r h9).2, hgm, zm_mixl h9]
    · rw [zm_mixr (by omega)]
  have hW : zw_St Y s.heap.size ad1 sh1 (zm_mix u g1) s H locs := by rw [← hg1]; exact hW
  refine lv_aload_n X.1 X.2.1 dL_law_196 rfl (lv_at hl 1 rfl) ?_
  refine lv_aload_n X.1 X.2.1 dL_law_197 rfl (lv_at hl 3 rfl) ?_
  refine lv_iload_n X.1 X.2.1 dL_law_198 rfl (lv_at hl 0 rfl) ?_
  refine lv_iconst (v := 1) X.1 X.2.1 dL_law_199 (by decide) ?_
  refine lv_iadd X.1 X.2.1 dL_law_200 ?_
  refine zr_eqi (v := nI (j + 1)) (nI_add j 1) ?_
  refine va_sld X.1 X.2.1 hX hbl hbA hW.2.1 (zi_vp (by rw [nI_toInt (by omega)]; omega)) dL_law_201 ?_
  refine lv_aload_n X.1 X.2.1 dL_law_202 rfl (lv_at hl 3 rfl) ?_
  refine lv_iload_n X.1 X.2.1 dL_law_203 rfl (lv_at hl 0 rfl) ?_
  refine lv_iconst (v := 2) X.1 X.2.1 dL_law_204 (by decide) ?_
  refine lv_iadd X.1 X.2.1 dL_law_205 ?_
  refine zr_eqi (v := nI (j + 2)) (nI_add j 2) ?_
  refine va_sld X.1 X.2.1 hX hbl hbA hW.2.1 (zi_vp (by rw [nI_toInt (by omega)]; omega)) dL_law_206 ?_
  refine zr_callV (As := [.int (xs (nI (j + 1)).toNatClampNeg), .int (xs (nI (j + 2)).toNatClampNeg)]) (rest := [.int ((sp_limit (xs (nI (j + 1)).toNatClampNeg) (xs (nI (j + 2)).toNatClampNeg) u).1)]) X hW hl.1 md_X10_limit ms_L_35 dL_law_207 (zm_s0 hM1) rfl rfl rfl (by rw [ham1] <;> rfl) (Nat.le_of_ble_eq_true rfl) ⟨Nat.le_of_ble_eq_true rfl, Nat.le_of_ble_eq_true rfl⟩ ⟨by show cells + 0 + 0 ≤ 600000; omega, by show slots + 0 + 0 ≤ 7302250; omega⟩ (c_X10_limit l Y _ ad1 sh1 u g1 hM1 (xs (nI (j + 1)).toNatClampNeg) (xs (nI (j + 2)).toNatClampNeg) hI) (fun v9 ad9 sh9 g9 H locs hp hW => ?_)
  obtain ⟨rfl, rfl, rfl, rfl⟩ := hp
  refine zr_icmp_eq (tgt := 826) X dL_law_210 (by decide) rfl rfl (fun _ => ?_) (fun c9 => absurd rfl c9)
  refine W.widen (k := cells + 2) (n := slots + 11) (by omega) (by omega) ?_
  exact kk _ _ _ (sp_limit (xs (nI (j + 1)).toNatClampNeg) (xs (nI (j + 2)).toNatClampNeg) u).2 _ _ ⟨hW, hM1, zc_Rc hR9 (fun r hr => ⟨rfl, zm_mixr hr⟩), (zm_mixm (u' := u)).symm, (zI_limit (xs (nI (j + 1)).toNatClampNeg) (xs (nI (j + 2)).toNatClampNeg) hI), hax1, ham1⟩

set_option maxHeartbeats 4000000 in
set_option maxRecDepth 100000 in
/-- allow -/
theorem lw_c3 {p : Program} {e : Env} {s : State} {m : MethodId} {below : List Frame} {meth : Method} {c : Code} {Q : State → Prop} (l : Launch) (Y : zw_Y) {b L : Nat} {xs : Nat → Int32} (hL : L ≤ 3073) (hbl : b < s.heap.size) (hX : va_X b L xs s s.heap) (X : zw_X p m meth c cL_law 4 (some .boolean) s #[Value.ref b] RL Y) (ax am j : Nat) (hj : j + 6 ≤ L) (ad : Nat → Nat) (sh : Nat → Option zw_Sh) (g u : zm_T) (H : Heap) (locs : List Loc) (cells slots : Nat) (ls : Array Slot) (h9 : lw_I Y s ax am ad sh g u H locs) (hcells : cells + 2 ≤ 600000) (hslots : slots + 11 ≤ 7302250) (hl : lv_has ls 4 [(3, .int (nI j)), (2, .ref am), (1, .ref ax), (0, .ref b)])
    (kk : ∀ (ad' : Nat → Nat) (sh' : Nat → Option zw_Sh) (g' u' : zm_T) (H' : Heap) (locs' : List Loc), lw_I Y s ax am ad' sh' g' u' H' locs' → W p l e room_1 s m #[Value.ref b] below meth c H' locs' (cells + 2) (slots + 11) Q (F0 m 826 ls [])) : W p l e room_1 s m #[Value.ref b] below meth c H locs cells slots Q (F0 m 215 ls []) := by
  obtain ⟨hW, hM, hR, hgm, hI, hax, ham⟩ := h9
  have hbA : ¬ (fun q : Nat => s.heap.size ≤ q) b := Nat.not_le.mpr hbl
  refine lv_aload_n X.1 X.2.1 dL_law_215 rfl (lv_at hl 2 rfl) ?_
  refine lv_aload_n X.1 X.2.1 dL_law_216 rfl (lv_at hl 3 rfl) ?_
  refine lv_iload_n X.1 X.2.1 dL_law_217 rfl (lv_at hl 0 rfl) ?_
  refine lv_iconst (v := 1) X.1 X.2.1 dL_law_218 (by decide) ?_
  refine lv_iadd X.1 X.2.1 dL_law_219 ?_
  refine zr_eqi (v := nI (j + 1)) (nI_add j 1) ?_
  refine va_sld X.1 X.2.1 hX hbl hbA hW.2.1 (zi_vp (by rw [nI_toInt (by omega)]; omega)) dL_law_220 ?_
  refine lv_aload_n X.1 X.2.1 dL_law_221 rfl (lv_at hl 3 rfl) ?_
  refine lv_iload_n X.1 X.2.1 dL_law_222 rfl (lv_at hl 0 rfl) ?_
  refine lv_iconst (v := 2) X.1 X.2.1 dL_law_223 (by decide) ?_
  refine lv_iadd X.1 X.2.1 dL_law_224 ?_
  refine zr_eqi (v := nI (j + 2)) (nI_add j 2) ?_
  refine va_sld X.1 X.2.1 hX hbl hbA hW.2.1 (zi_vp (by rw [nI_toInt (by omega)]; omega)) dL_law_225 ?_
  refine lv_aload_n X.1 X.2.1 dL_law_226 rfl (lv_at hl 3 rfl) ?_
  refine lv_iload_n X.1 X.2.1 dL_law_227 rfl (lv_at hl 0 rfl) ?_
  refine lv_iconst (v := 3) X.1 X.2.1 dL_law_228 (by decide) ?_
  refine lv_iadd X.1 X.2.1 dL_law_229 ?_
  refine zr_eqi (v := nI (j + 3)) (nI_add j 3) ?_
  refine va_sld X.1 X.2.1 hX hbl hbA hW.2.1 (zi_vp (by rw [nI_toInt (by omega)]; omega)) dL_law_230 ?_
  refine zr_callV (As := [.int (xs (nI (j + 1)).toNatClampNeg), .int (xs (nI (j + 2)).toNatClampNeg), .int (xs (nI (j + 3)).toNatClampNeg)]) (rest := []) X hW hl.1 md_X9_allow ms_L_36 dL_law_231 (zc_s100 hR.1) rfl rfl rfl (by rw [hax] <;> rfl) (Nat.le_of_ble_eq_true rfl) ⟨Nat.le_of_ble_eq_true rfl, Nat.le_of_ble_eq_true rfl⟩ ⟨by show cells + 0 ≤ 600000; omega, by show slots + 0 ≤ 7302250; omega⟩ (c_X9_allow l Y _ ad sh g u hR hI (xs (nI (j + 1)).toNatClampNeg) (xs (nI (j + 2)).toNatClampNeg) (xs (nI (j + 3)).toNatClampNeg)) (fun v9 ad9 sh9 g9 H locs hp hW => ?_)
  obtain ⟨rfl, hR9, hf9⟩ := hp
  obtain ⟨ad1, rfl⟩ : ∃ z : Nat → Nat, z = ad9 := ⟨_, rfl⟩
  obtain ⟨sh1, rfl⟩ : ∃ z : Nat → Option zw_Sh, z = sh9 := ⟨_, rfl⟩
  obtain ⟨g1, rfl⟩ : ∃ z : zm_T, z = g9 := ⟨_, rfl⟩
  have hM1 : zm_S sh1 := zm_Sc hM (fun r hr => (hf9.2 r hr).1)
  have ham1 : ad1 0 = am := (hf9.1 0 (by omega)).trans ham
  have hax1 : ad1 100 = ax := (hf9.1 100 (by omega)).trans hax
  have hg1 : g1 = zm_mix u g1 := by
    funext r
    by_cases h9 : r < 100
    · rw [zm_mixl h9, (hf9.2 r h9).2, hgm, zm_mixl h9]
    · rw [zm_mixr (by omega)]
  have hW : zw_St Y s.heap.size ad1 sh1 (zm_mix u g1) s H locs := by rw [← hg1]; exact hW
  refine lv_aload_n X.1 X.2.1 dL_law_234 rfl (lv_at hl 1 rfl) ?_
  refine lv_aload_n X.1 X.2.1 dL_law_235 rfl (lv_at hl 3 rfl) ?_
  refine lv_iload_n X.1 X.2.1 dL_law_236 rfl (lv_at hl 0 rfl) ?_
  refine lv_iconst (v := 1) X.1 X.2.1 dL_law_237 (by decide) ?_
  refine lv_iadd X.1 X.2.1 dL_law_238 ?_
  refine zr_eqi (v := nI (j + 1)) (nI_add j 1) ?_
  refine va_sld X.1 X.2.1 hX hbl hbA hW.2.1 (zi_vp (by rw [nI_toInt (by omega)]; omega)) dL_law_239 ?_
  refine lv_aload_n X.1 X.2.1 dL_law_240 rfl (lv_at hl 3 rfl) ?_
  refine lv_iload_n X.1 X.2.1 dL_law_241 rfl (lv_at hl 0 rfl) ?_
  refine lv_iconst (v := 2) X.1 X.2.1 dL_law_242 (by decide) ?_
  refine lv_iadd X.1 X.2.1 dL_law_243 ?_
  refine zr_eqi (v := nI (j + 2)) (nI_add j 2) ?_
  refine va_sld X.1 X.2.1 hX hbl hbA hW.2.1 (zi_vp (by rw [nI_toInt (by omega)]; omega)) dL_law_244 ?_
  refine lv_aload_n X.1 X.2.1 dL_law_245 rfl (lv_at hl 3 rfl) ?_
  refine lv_iload_n X.1 X.2.1 dL_law_246 rfl (lv_at hl 0 rfl) ?_
  refine lv_iconst (v := 3) X.1 X.2.1 dL_law_247 (by decide) ?_
  refine lv_iadd X.1 X.2.1 dL_law_248 ?_
  refine zr_eqi (v := nI (j + 3)) (nI_add j 3) ?_
  refine va_sld X.1 X.2.1 hX hbl hbA hW.2.1 (zi_vp (by rw [nI_toInt (by omega)]; omega)) dL_law_249 ?_
  refine zr_callV (As := [.int (xs (nI (j + 1)).toNatClampNeg), .int (xs (nI (j + 2)).toNatClampNeg), .int (xs (nI (j + 3)).toNatClampNeg)]) (rest := [.int ((sp_allow (xs (nI (j + 1)).toNatClampNeg) (xs (nI (j + 2)).toNatClampNeg) (xs (nI (j + 3)).toNatClampNeg) u).1)]) X hW hl.1 md_X10_allow ms_L_40 dL_law_250 (zm_s0 hM1) rfl rfl rfl (by rw [ham1] <;> rfl) (Nat.le_of_ble_eq_true rfl) ⟨Nat.le_of_ble_eq_true rfl, Nat.le_of_ble_eq_true rfl⟩ ⟨by show cells + 0 + 0 ≤ 600000; omega, by show slots + 0 + 0 ≤ 7302250; omega⟩ (c_X10_allow l Y _ ad1 sh1 u g1 hM1 (xs (nI (j + 1)).toNatClampNeg) (xs (nI (j + 2)).toNatClampNeg) (xs (nI (j + 3)).toNatClampNeg) hI) (fun v9 ad9 sh9 g9 H locs hp hW => ?_)
  obtain ⟨rfl, rfl, rfl, rfl⟩ := hp
  refine zr_icmp_eq (tgt := 826) X dL_law_253 (by decide) rfl rfl (fun _ => ?_) (fun c9 => absurd rfl c9)
  refine W.widen (k := cells + 2) (n := slots + 11) (by omega) (by omega) ?_
  exact kk _ _ _ (sp_allow (xs (nI (j + 1)).toNatClampNeg) (xs (nI (j + 2)).toNatClampNeg) (xs (nI (j + 3)).toNatClampNeg) u).2 _ _ ⟨hW, hM1, zc_Rc hR9 (fun r hr => ⟨rfl, zm_mixr hr⟩), (zm_mixm (u' := u)).symm, (zI_allow (xs (nI (j + 1)).toNatClampNeg) (xs (nI (j + 2)).toNatClampNeg) (xs (nI (j + 3)).toNatClampNeg) hI), hax1, ham1⟩

set_option maxHeartbeats 4000000 in
set_option maxRecDepth 100000 in
/-- save -/
theorem lw_c4 {p : Program} {e : Env} {s : State} {m : MethodId} {below : List Frame} {meth : Method} {c : Code} {Q : State → Prop} (l : Launch) (Y : zw_Y) {b L : Nat} {xs : Nat → Int32} (hL : L ≤ 3073) (hbl : b < s.heap.size) (hX : va_X b L xs s s.heap) (X : zw_X p m meth c cL_law 4 (some .boolean) s #[Value.ref b] RL Y) (ax am j : Nat) (hj : j + 6 ≤ L) (ad : Nat → Nat) (sh : Nat → Option zw_Sh) (g u : zm_T) (H : Heap) (locs : List Loc) (cells slots : Nat) (ls : Array Slot) (h9 : lw_I Y s ax am ad sh g u H locs) (hcells : cells + 2 ≤ 600000) (hslots : slots + 11 ≤ 7302250) (hl : lv_has ls 4 [(3, .int (nI j)), (2, .ref am), (1, .ref ax), (0, .ref b)])
    (kk : ∀ (ad' : Nat → Nat) (sh' : Nat → Option zw_Sh) (g' u' : zm_T) (H' : Heap) (locs' : List Loc), lw_I Y s ax am ad' sh' g' u' H' locs' → W p l e room_1 s m #[Value.ref b] below meth c H' locs' (cells + 2) (slots + 11) Q (F0 m 826 ls [])) : W p l e room_1 s m #[Value.ref b] below meth c H locs cells slots Q (F0 m 258 ls []) := by
  obtain ⟨hW, hM, hR, hgm, hI, hax, ham⟩ := h9
  have hbA : ¬ (fun q : Nat => s.heap.size ≤ q) b := Nat.not_le.mpr hbl
  refine lv_aload_n X.1 X.2.1 dL_law_258 rfl (lv_at hl 2 rfl) ?_
  refine zr_callV (As := []) (rest := []) X hW hl.1 md_X9_save ms_L_41 dL_law_259 (zc_s100 hR.1) rfl rfl rfl (by rw [hax] <;> rfl) (Nat.le_of_ble_eq_true rfl) ⟨Nat.le_of_ble_eq_true rfl, Nat.le_of_ble_eq_true rfl⟩ ⟨by show cells + 0 ≤ 600000; omega, by show slots + 0 ≤ 7302250; omega⟩ (c_X9_save l Y _ ad sh g u hR hI) (fun v9 ad9 sh9 g9 H locs hp hW => ?_)
  obtain ⟨rfl, hR9, hf9⟩ := hp
  obtain ⟨ad1, rfl⟩ : ∃ z : Nat → Nat, z = ad9 := ⟨_, rfl⟩
  obtain ⟨sh1, rfl⟩ : ∃ z : Nat → Option zw_Sh, z = sh9 := ⟨_, rfl⟩
  obtain ⟨g1, rfl⟩ : ∃ z : zm_T, z = g9 := ⟨_, rfl⟩
  have hM1 : zm_S sh1 := zm_Sc hM (fun r hr => (hf9.2 r hr).1)
  have ham1 : ad1 0 = am := (hf9.1 0 (by omega)).trans ham
  have hax1 : ad1 100 = ax := (hf9.1 100 (by omega)).trans hax
  have hg1 : g1 = zm_mix u g1 := by
    funext r
    by_cases h9 : r < 100
    · rw [zm_mixl h9, (hf9.2 r h9).2, hgm, zm_mixl h9]
    · rw [zm_mixr (by omega)]
  have hW : zw_St Y s.heap.size ad1 sh1 (zm_mix u g1) s H locs := by rw [← hg1]; exact hW
  refine lv_aload_n X.1 X.2.1 dL_law_262 rfl (lv_at hl 1 rfl) ?_
  refine zr_callV (As := []) (rest := [.int ((sp_save u).1)]) X hW hl.1 md_X10_save ms_L_45 dL_law_263 (zm_s0 hM1) rfl rfl rfl (by rw [ham1] <;> rfl) (Nat.le_of_ble_eq_true rfl) ⟨Nat.le_of_ble_eq_true rfl, Nat.le_of_ble_eq_true rfl⟩ ⟨by show cells + 0 + 0 ≤ 600000; omega, by show slots + 0 + 0 ≤ 7302250; omega⟩ (c_X10_save l Y _ ad1 sh1 u g1 hM1 hI) (fun v9 ad9 sh9 g9 H locs hp hW => ?_)
  obtain ⟨rfl, rfl, rfl, rfl⟩ := hp
  refine zr_icmp_eq (tgt := 826) X dL_law_266 (by decide) rfl rfl (fun _ => ?_) (fun c9 => absurd rfl c9)
  refine W.widen (k := cells + 2) (n := slots + 11) (by omega) (by omega) ?_
  exact kk _ _ _ (sp_save u).2 _ _ ⟨hW, hM1, zc_Rc hR9 (fun r hr => ⟨rfl, zm_mixr hr⟩), (zm_mixm (u' := u)).symm, (zI_save hI), hax1, ham1⟩

set_option maxHeartbeats 4000000 in
set_option maxRecDepth 100000 in
/-- crash -/
theorem lw_c5 {p : Program} {e : Env} {s : State} {m : MethodId} {below : List Frame} {meth : Method} {c : Code} {Q : State → Prop} (l : Launch) (Y : zw_Y) {b L : Nat} {xs : Nat → Int32} (hL : L ≤ 3073) (hbl : b < s.heap.size) (hX : va_X b L xs s s.heap) (X : zw_X p m meth c cL_law 4 (some .boolean) s #[Value.ref b] RL Y) (ax am j : Nat) (hj : j + 6 ≤ L) (ad : Nat → Nat) (sh : Nat → Option zw_Sh) (g u : zm_T) (H : Heap) (locs : List Loc) (cells slots : Nat) (ls : Array Slot) (h9 : lw_I Y s ax am ad sh g u H locs) (hcells : cells + 2 ≤ 600000) (hslots : slots + 11 ≤ 7302250) (hl : lv_has ls 4 [(3, .int (nI j)), (2, .ref am), (1, .ref ax), (0, .ref b)])
    (kk : ∀ (ad' : Nat → Nat) (sh' : Nat → Option zw_Sh) (g' u' : zm_T) (H' : Heap) (locs' : List Loc), lw_I Y s ax am ad' sh' g' u' H' locs' → W p l e room_1 s m #[Value.ref b] below meth c H' locs' (cells + 2) (slots + 11) Q (F0 m 826 ls [])) : W p l e room_1 s m #[Value.ref b] below meth c H locs cells slots Q (F0 m 271 ls []) := by
  obtain ⟨hW, hM, hR, hgm, hI, hax, ham⟩ := h9
  have hbA : ¬ (fun q : Nat => s.heap.size ≤ q) b := Nat.not_le.mpr hbl
  refine lv_aload_n X.1 X.2.1 dL_law_271 rfl (lv_at hl 2 rfl) ?_
  refine zr_callV (As := []) (rest := []) X hW hl.1 md_X9_crash ms_L_46 dL_law_272 (zc_s100 hR.1) rfl rfl rfl (by rw [hax] <;> rfl) (Nat.le_of_ble_eq_true rfl) ⟨Nat.le_of_ble_eq_true rfl, Nat.le_of_ble_eq_true rfl⟩ ⟨by show cells + 0 ≤ 600000; omega, by show slots + 0 ≤ 7302250; omega⟩ (c_X9_crash l Y _ ad sh g u hR hI) (fun v9 ad9 sh9 g9 H locs hp hW => ?_)
  obtain ⟨rfl, hR9, hf9⟩ := hp
  obtain ⟨ad1, rfl⟩ : ∃ z : Nat → Nat, z = ad9 := ⟨_, rfl⟩
  obtain ⟨sh1, rfl⟩ : ∃ z : Nat → Option zw_Sh, z = sh9 := ⟨_, rfl⟩
  obtain ⟨g1, rfl⟩ : ∃ z : zm_T, z = g9 := ⟨_, rfl⟩
  have hM1 : zm_S sh1 := zm_Sc hM (fun r hr => (hf9.2 r hr).1)
  have ham1 : ad1 0 = am := (hf9.1 0 (by omega)).trans ham
  have hax1 : ad1 100 = ax := (hf9.1 100 (by omega)).trans hax
  have hg1 : g1 = zm_mix u g1 := by
    funext r
    by_cases h9 : r < 100
    · rw [zm_mixl h9, (hf9.2 r h9).2, hgm, zm_mixl h9]
    · rw [zm_mixr (by omega)]
  have hW : zw_St Y s.heap.size ad1 sh1 (zm_mix u g1) s H locs := by rw [← hg1]; exact hW
  refine lv_aload_n X.1 X.2.1 dL_law_275 rfl (lv_at hl 1 rfl) ?_
  refine zr_callV (As := []) (rest := [.int ((sp_crash u).1)]) X hW hl.1 md_X10_crash ms_L_49 dL_law_276 (zm_s0 hM1) rfl rfl rfl (by rw [ham1] <;> rfl) (Nat.le_of_ble_eq_true rfl) ⟨Nat.le_of_ble_eq_true rfl, Nat.le_of_ble_eq_true rfl⟩ ⟨by show cells + 0 + 0 ≤ 600000; omega, by show slots + 0 + 0 ≤ 7302250; omega⟩ (c_X10_crash l Y _ ad1 sh1 u g1 hM1 hI) (fun v9 ad9 sh9 g9 H locs hp hW => ?_)
  obtain ⟨rfl, rfl, rfl, rfl⟩ := hp
  refine zr_icmp_eq (tgt := 826) X dL_law_279 (by decide) rfl rfl (fun _ => ?_) (fun c9 => absurd rfl c9)
  refine W.widen (k := cells + 2) (n := slots + 11) (by omega) (by omega) ?_
  exact kk _ _ _ (sp_crash u).2 _ _ ⟨hW, hM1, zc_Rc hR9 (fun r hr => ⟨rfl, zm_mixr hr⟩), (zm_mixm (u' := u)).symm, (zI_crash hI), hax1, ham1⟩

set_option maxHeartbeats 4000000 in
set_option maxRecDepth 100000 in
/-- tick -/
theorem lw_c6 {p : Program} {e : Env} {s : State} {m : MethodId} {below : List Frame} {meth : Method} {c : Code} {Q : State → Prop} (l : Launch) (Y : zw_Y) {b L : Nat} {xs : Nat → Int32} (hL : L ≤ 3073) (hbl : b < s.heap.size) (hX : va_X b L xs s s.heap) (X : zw_X p m meth c cL_law 4 (some .boolean) s #[Value.ref b] RL Y) (ax am j : Nat) (hj : j + 6 ≤ L) (ad : Nat → Nat) (sh : Nat → Option zw_Sh) (g u : zm_T) (H : Heap) (locs : List Loc) (cells slots : Nat) (ls : Array Slot) (h9 : lw_I Y s ax am ad sh g u H locs) (hcells : cells + 2 ≤ 600000) (hslots : slots + 11 ≤ 7302250) (hl : lv_has ls 4 [(3, .int (nI j)), (2, .ref am), (1, .ref ax), (0, .ref b)])
    (kk : ∀ (ad' : Nat → Nat) (sh' : Nat → Option zw_Sh) (g' u' : zm_T) (H' : Heap) (locs' : List Loc), lw_I Y s ax am ad' sh' g' u' H' locs' → W p l e room_1 s m #[Value.ref b] below meth c H' locs' (cells + 2) (slots + 11) Q (F0 m 826 ls [])) : W p l e room_1 s m #[Value.ref b] below meth c H locs cells slots Q (F0 m 284 ls []) := by
  obtain ⟨hW, hM, hR, hgm, hI, hax, ham⟩ := h9
  have hbA : ¬ (fun q : Nat => s.heap.size ≤ q) b := Nat.not_le.mpr hbl
  refine lv_aload_n X.1 X.2.1 dL_law_284 rfl (lv_at hl 2 rfl) ?_
  refine lv_aload_n X.1 X.2.1 dL_law_285 rfl (lv_at hl 3 rfl) ?_
  refine lv_iload_n X.1 X.2.1 dL_law_286 rfl (lv_at hl 0 rfl) ?_
  refine lv_iconst (v := 1) X.1 X.2.1 dL_law_287 (by decide) ?_
  refine lv_iadd X.1 X.2.1 dL_law_288 ?_
  refine zr_eqi (v := nI (j + 1)) (nI_add j 1) ?_
  refine va_sld X.1 X.2.1 hX hbl hbA hW.2.1 (zi_vp (by rw [nI_toInt (by omega)]; omega)) dL_law_289 ?_
  refine lv_aload_n X.1 X.2.1 dL_law_290 rfl (lv_at hl 3 rfl) ?_
  refine lv_iload_n X.1 X.2.1 dL_law_291 rfl (lv_at hl 0 rfl) ?_
  refine lv_iconst (v := 2) X.1 X.2.1 dL_law_292 (by decide) ?_
  refine lv_iadd X.1 X.2.1 dL_law_293 ?_
  refine zr_eqi (v := nI (j + 2)) (nI_add j 2) ?_
  refine va_sld X.1 X.2.1 hX hbl hbA hW.2.1 (zi_vp (by rw [nI_toInt (by omega)]; omega)) dL_law_294 ?_
  refine zr_callV (As := [.int (xs (nI (j + 1)).toNatClampNeg), .int (xs (nI (j + 2)).toNatClampNeg)]) (rest := []) X hW hl.1 md_X9_tick ms_L_50 dL_law_295 (zc_s100 hR.1) rfl rfl rfl (by rw [hax] <;> rfl) (Nat.le_of_ble_eq_true rfl) ⟨Nat.le_of_ble_eq_true rfl, Nat.le_of_ble_eq_true rfl⟩ ⟨by show cells + 0 ≤ 600000; omega, by show slots + 0 ≤ 7302250; omega⟩ (c_X9_tick l Y _ ad sh g u hR hI (xs (nI (j + 1)).toNatClampNeg) (xs (nI (j + 2)).toNatClampNeg)) (fun v9 ad9 sh9 g9 H locs hp hW => ?_)
  obtain ⟨rfl, hR9, hf9⟩ := hp
  obtain ⟨ad1, rfl⟩ : ∃ z : Nat → Nat, z = ad9 := ⟨_, rfl⟩
  obtain ⟨sh1, rfl⟩ : ∃ z : Nat → Option zw_Sh, z = sh9 := ⟨_, rfl⟩
  obtain ⟨g1, rfl⟩ : ∃ z : zm_T, z = g9 := ⟨_, rfl⟩
  have hM1 : zm_S sh1 := zm_Sc hM (fun r hr => (hf9.2 r hr).1)
  have ham1 : ad1 0 = am := (hf9.1 0 (by omega)).trans ham
  have hax1 : ad1 100 = ax := (hf9.1 100 (by omega)).trans hax
  have hg1 : g1 = zm_mix u g1 := by
    funext r
    by_cases h9 : r < 100
    · rw [zm_mixl h9, (hf9.2 r h9).2, hgm, zm_mixl h9]
    · rw [zm_mixr (by omega)]
  have hW : zw_St Y s.heap.size ad1 sh1 (zm_mix u g1) s H locs := by rw [← hg1]; exact hW
  refine lv_aload_n X.1 X.2.1 dL_law_298 rfl (lv_at hl 1 rfl) ?_
  refine lv_aload_n X.1 X.2.1 dL_law_299 rfl (lv_at hl 3 rfl) ?_
  refine lv_iload_n X.1 X.2.1 dL_law_300 rfl (lv_at hl 0 rfl) ?_
  refine lv_iconst (v := 1) X.1 X.2.1 dL_law_301 (by decide) ?_
  refine lv_iadd X.1 X.2.1 dL_law_302 ?_
  refine zr_eqi (v := nI (j + 1)) (nI_add j 1) ?_
  refine va_sld X.1 X.2.1 hX hbl hbA hW.2.1 (zi_vp (by rw [nI_toInt (by omega)]; omega)) dL_law_303 ?_
  refine lv_aload_n X.1 X.2.1 dL_law_304 rfl (lv_at hl 3 rfl) ?_
  refine lv_iload_n X.1 X.2.1 dL_law_305 rfl (lv_at hl 0 rfl) ?_
  refine lv_iconst (v := 2) X.1 X.2.1 dL_law_306 (by decide) ?_
  refine lv_iadd X.1 X.2.1 dL_law_307 ?_
  refine zr_eqi (v := nI (j + 2)) (nI_add j 2) ?_
  refine va_sld X.1 X.2.1 hX hbl hbA hW.2.1 (zi_vp (by rw [nI_toInt (by omega)]; omega)) dL_law_308 ?_
  refine zr_callV (As := [.int (xs (nI (j + 1)).toNatClampNeg), .int (xs (nI (j + 2)).toNatClampNeg)]) (rest := [.int ((sp_tick (xs (nI (j + 1)).toNatClampNeg) (xs (nI (j + 2)).toNatClampNeg) u).1)]) X hW hl.1 md_X10_tick ms_L_54 dL_law_309 (zm_s0 hM1) rfl rfl rfl (by rw [ham1] <;> rfl) (Nat.le_of_ble_eq_true rfl) ⟨Nat.le_of_ble_eq_true rfl, Nat.le_of_ble_eq_true rfl⟩ ⟨by show cells + 0 + 0 ≤ 600000; omega, by show slots + 0 + 0 ≤ 7302250; omega⟩ (c_X10_tick l Y _ ad1 sh1 u g1 hM1 (xs (nI (j + 1)).toNatClampNeg) (xs (nI (j + 2)).toNatClampNeg) hI) (fun v9 ad9 sh9 g9 H locs hp hW => ?_)
  obtain ⟨rfl, rfl, rfl, rfl⟩ := hp
  refine zr_icmp_eq (tgt := 826) X dL_law_312 (by decide) rfl rfl (fun _ => ?_) (fun c9 => absurd rfl c9)
  refine W.widen (k := cells + 2) (n := slots + 11) (by omega) (by omega) ?_
  exact kk _ _ _ (sp_tick (xs (nI (j + 1)).toNatClampNeg) (xs (nI (j + 2)).toNatClampNeg) u).2 _ _ ⟨hW, hM1, zc_Rc hR9 (fun r hr => ⟨rfl, zm_mixr hr⟩), (zm_mixm (u' := u)).symm, (zI_tick (xs (nI (j + 1)).toNatClampNeg) (xs (nI (j + 2)).toNatClampNeg) hI), hax1, ham1⟩

set_option maxHeartbeats 4000000 in
set_option maxRecDepth 100000 in
/-- login -/
theorem lw_c7 {p : Program} {e : Env} {s : State} {m : MethodId} {below : List Frame} {meth : Method} {c : Code} {Q : State → Prop} (l : Launch) (Y : zw_Y) {b L : Nat} {xs : Nat → Int32} (hL : L ≤ 3073) (hbl : b < s.heap.size) (hX : va_X b L xs s s.heap) (X : zw_X p m meth c cL_law 4 (some .boolean) s #[Value.ref b] RL Y) (ax am j : Nat) (hj : j + 6 ≤ L) (ad : Nat → Nat) (sh : Nat → Option zw_Sh) (g u : zm_T) (H : Heap) (locs : List Loc) (cells slots : Nat) (ls : Array Slot) (h9 : lw_I Y s ax am ad sh g u H locs) (hcells : cells + 2 ≤ 600000) (hslots : slots + 11 ≤ 7302250) (hl : lv_has ls 4 [(3, .int (nI j)), (2, .ref am), (1, .ref ax), (0, .ref b)])
    (kk : ∀ (ad' : Nat → Nat) (sh' : Nat → Option zw_Sh) (g' u' : zm_T) (H' : Heap) (locs' : List Loc), lw_I Y s ax am ad' sh' g' u' H' locs' → W p l e room_1 s m #[Value.ref b] below meth c H' locs' (cells + 2) (slots + 11) Q (F0 m 826 ls [])) : W p l e room_1 s m #[Value.ref b] below meth c H locs cells slots Q (F0 m 317 ls []) := by
  obtain ⟨hW, hM, hR, hgm, hI, hax, ham⟩ := h9
  have hbA : ¬ (fun q : Nat => s.heap.size ≤ q) b := Nat.not_le.mpr hbl
  refine lv_aload_n X.1 X.2.1 dL_law_317 rfl (lv_at hl 2 rfl) ?_
  refine lv_aload_n X.1 X.2.1 dL_law_318 rfl (lv_at hl 3 rfl) ?_
  refine lv_iload_n X.1 X.2.1 dL_law_319 rfl (lv_at hl 0 rfl) ?_
  refine lv_iconst (v := 1) X.1 X.2.1 dL_law_320 (by decide) ?_
  refine lv_iadd X.1 X.2.1 dL_law_321 ?_
  refine zr_eqi (v := nI (j + 1)) (nI_add j 1) ?_
  refine va_sld X.1 X.2.1 hX hbl hbA hW.2.1 (zi_vp (by rw [nI_toInt (by omega)]; omega)) dL_law_322 ?_
  refine lv_aload_n X.1 X.2.1 dL_law_323 rfl (lv_at hl 3 rfl) ?_
  refine lv_iload_n X.1 X.2.1 dL_law_324 rfl (lv_at hl 0 rfl) ?_
  refine lv_iconst (v := 2) X.1 X.2.1 dL_law_325 (by decide) ?_
  refine lv_iadd X.1 X.2.1 dL_law_326 ?_
  refine zr_eqi (v := nI (j + 2)) (nI_add j 2) ?_
  refine va_sld X.1 X.2.1 hX hbl hbA hW.2.1 (zi_vp (by rw [nI_toInt (by omega)]; omega)) dL_law_327 ?_
  refine zr_callV (As := [.int (xs (nI (j + 1)).toNatClampNeg), .int (xs (nI (j + 2)).toNatClampNeg)]) (rest := []) X hW hl.1 md_X9_login ms_L_55 dL_law_328 (zc_s100 hR.1) rfl rfl rfl (by rw [hax] <;> rfl) (Nat.le_of_ble_eq_true rfl) ⟨Nat.le_of_ble_eq_true rfl, Nat.le_of_ble_eq_true rfl⟩ ⟨by show cells + 1 ≤ 600000; omega, by show slots + 3 ≤ 7302250; omega⟩ (c_X9_login l Y _ ad sh g u hR hI (xs (nI (j + 1)).toNatClampNeg) (xs (nI (j + 2)).toNatClampNeg)) (fun v9 ad9 sh9 g9 H locs hp hW => ?_)
  obtain ⟨rfl, hR9, hf9⟩ := hp
  obtain ⟨ad1, rfl⟩ : ∃ z : Nat → Nat, z = ad9 := ⟨_, rfl⟩
  obtain ⟨sh1, rfl⟩ : ∃ z : Nat → Option zw_Sh, z = sh9 := ⟨_, rfl⟩
  obtain ⟨g1, rfl⟩ : ∃ z : zm_T, z = g9 := ⟨_, rfl⟩
  have hM1 : zm_S sh1 := zm_Sc hM (fun r hr => (hf9.2 r hr).1)
  have ham1 : ad1 0 = am := (hf9.1 0 (by omega)).trans ham
  have hax1 : ad1 100 = ax := (hf9.1 100 (by omega)).trans hax
  have hg1 : g1 = zm_mix u g1 := by
    funext r
    by_cases h9 : r < 100
    · rw [zm_mixl h9, (hf9.2 r h9).2, hgm, zm_mixl h9]
    · rw [zm_mixr (by omega)]
  have hW : zw_St Y s.heap.size ad1 sh1 (zm_mix u g1) s H locs := by rw [← hg1]; exact hW
  refine lv_aload_n X.1 X.2.1 dL_law_331 rfl (lv_at hl 1 rfl) ?_
  refine lv_aload_n X.1 X.2.1 dL_law_332 rfl (lv_at hl 3 rfl) ?_
  refine lv_iload_n X.1 X.2.1 dL_law_333 rfl (lv_at hl 0 rfl) ?_
  refine lv_iconst (v := 1) X.1 X.2.1 dL_law_334 (by decide) ?_
  refine lv_iadd X.1 X.2.1 dL_law_335 ?_
  refine zr_eqi (v := nI (j + 1)) (nI_add j 1) ?_
  refine va_sld X.1 X.2.1 hX hbl hbA hW.2.1 (zi_vp (by rw [nI_toInt (by omega)]; omega)) dL_law_336 ?_
  refine lv_aload_n X.1 X.2.1 dL_law_337 rfl (lv_at hl 3 rfl) ?_
  refine lv_iload_n X.1 X.2.1 dL_law_338 rfl (lv_at hl 0 rfl) ?_
  refine lv_iconst (v := 2) X.1 X.2.1 dL_law_339 (by decide) ?_
  refine lv_iadd X.1 X.2.1 dL_law_340 ?_
  refine zr_eqi (v := nI (j + 2)) (nI_add j 2) ?_
  refine va_sld X.1 X.2.1 hX hbl hbA hW.2.1 (zi_vp (by rw [nI_toInt (by omega)]; omega)) dL_law_341 ?_
  refine zr_callV (As := [.int (xs (nI (j + 1)).toNatClampNeg), .int (xs (nI (j + 2)).toNatClampNeg)]) (rest := [.int ((sp_login (xs (nI (j + 1)).toNatClampNeg) (xs (nI (j + 2)).toNatClampNeg) u).1)]) X hW hl.1 md_X10_login ms_L_58 dL_law_342 (zm_s0 hM1) rfl rfl rfl (by rw [ham1] <;> rfl) (Nat.le_of_ble_eq_true rfl) ⟨Nat.le_of_ble_eq_true rfl, Nat.le_of_ble_eq_true rfl⟩ ⟨by show cells + 1 + 0 ≤ 600000; omega, by show slots + 3 + 0 ≤ 7302250; omega⟩ (c_X10_login l Y _ ad1 sh1 u g1 hM1 (xs (nI (j + 1)).toNatClampNeg) (xs (nI (j + 2)).toNatClampNeg) hI) (fun v9 ad9 sh9 g9 H locs hp hW => ?_)
  obtain ⟨rfl, rfl, rfl, rfl⟩ := hp
  refine zr_icmp_eq (tgt := 826) X dL_law_345 (by decide) rfl rfl (fun _ => ?_) (fun c9 => absurd rfl c9)
  refine W.widen (k := cells + 2) (n := slots + 11) (by omega) (by omega) ?_
  exact kk _ _ _ (sp_login (xs (nI (j + 1)).toNatClampNeg) (xs (nI (j + 2)).toNatClampNeg) u).2 _ _ ⟨hW, hM1, zc_Rc hR9 (fun r hr => ⟨rfl, zm_mixr hr⟩), (zm_mixm (u' := u)).symm, (zI_login (xs (nI (j + 1)).toNatClampNeg) (xs (nI (j + 2)).toNatClampNeg) hI), hax1, ham1⟩

set_option maxHeartbeats 4000000 in
set_option maxRecDepth 100000 in
/-- ask -/
theorem lw_c8 {p : Program} {e : Env} {s : State} {m : MethodId} {below : List Frame} {meth : Method} {c : Code} {Q : State → Prop} (l : Launch) (Y : zw_Y) {b L : Nat} {xs : Nat → Int32} (hL : L ≤ 3073) (hbl : b < s.heap.size) (hX : va_X b L xs s s.heap) (X : zw_X p m meth c cL_law 4 (some .boolean) s #[Value.ref b] RL Y) (ax am j : Nat) (hj : j + 6 ≤ L) (ad : Nat → Nat) (sh : Nat → Option zw_Sh) (g u : zm_T) (H : Heap) (locs : List Loc) (cells slots : Nat) (ls : Array Slot) (h9 : lw_I Y s ax am ad sh g u H locs) (hcells : cells + 2 ≤ 600000) (hslots : slots + 11 ≤ 7302250) (hl : lv_has ls 4 [(3, .int (nI j)), (2, .ref am), (1, .ref ax), (0, .ref b)])
    (kk : ∀ (ad' : Nat → Nat) (sh' : Nat → Option zw_Sh) (g' u' : zm_T) (H' : Heap) (locs' : List Loc), lw_I Y s ax am ad' sh' g' u' H' locs' → W p l e room_1 s m #[Value.ref b] below meth c H' locs' (cells + 2) (slots + 11) Q (F0 m 826 ls [])) : W p l e room_1 s m #[Value.ref b] below meth c H locs cells slots Q (F0 m 350 ls []) := by
  obtain ⟨hW, hM, hR, hgm, hI, hax, ham⟩ := h9
  have hbA : ¬ (fun q : Nat => s.heap.size ≤ q) b := Nat.not_le.mpr hbl
  refine lv_aload_n X.1 X.2.1 dL_law_350 rfl (lv_at hl 2 rfl) ?_
  refine lv_aload_n X.1 X.2.1 dL_law_351 rfl (lv_at hl 3 rfl) ?_
  refine lv_iload_n X.1 X.2.1 dL_law_352 rfl (lv_at hl 0 rfl) ?_
  refine lv_iconst (v := 1) X.1 X.2.1 dL_law_353 (by decide) ?_
  refine lv_iadd X.1 X.2.1 dL_law_354 ?_
  refine zr_eqi (v := nI (j + 1)) (nI_add j 1) ?_
  refine va_sld X.1 X.2.1 hX hbl hbA hW.2.1 (zi_vp (by rw [nI_toInt (by omega)]; omega)) dL_law_355 ?_
  refine lv_aload_n X.1 X.2.1 dL_law_356 rfl (lv_at hl 3 rfl) ?_
  refine lv_iload_n X.1 X.2.1 dL_law_357 rfl (lv_at hl 0 rfl) ?_
  refine lv_iconst (v := 2) X.1 X.2.1 dL_law_358 (by decide) ?_
  refine lv_iadd X.1 X.2.1 dL_law_359 ?_
  refine zr_eqi (v := nI (j + 2)) (nI_add j 2) ?_
  refine va_sld X.1 X.2.1 hX hbl hbA hW.2.1 (zi_vp (by rw [nI_toInt (by omega)]; omega)) dL_law_360 ?_
  refine zr_callV (As := [.int (xs (nI (j + 1)).toNatClampNeg), .int (xs (nI (j + 2)).toNatClampNeg)]) (rest := []) X hW hl.1 md_X9_ask ms_L_59 dL_law_361 (zc_s100 hR.1) rfl rfl rfl (by rw [hax] <;> rfl) (Nat.le_of_ble_eq_true rfl) ⟨Nat.le_of_ble_eq_true rfl, Nat.le_of_ble_eq_true rfl⟩ ⟨by show cells + 2 ≤ 600000; omega, by show slots + 8 ≤ 7302250; omega⟩ (c_X9_ask l Y _ ad sh g u hR hI (xs (nI (j + 1)).toNatClampNeg) (xs (nI (j + 2)).toNatClampNeg)) (fun v9 ad9 sh9 g9 H locs hp hW => ?_)
  obtain ⟨rfl, hR9, hf9⟩ := hp
  obtain ⟨ad1, rfl⟩ : ∃ z : Nat → Nat, z = ad9 := ⟨_, rfl⟩
  obtain ⟨sh1, rfl⟩ : ∃ z : Nat → Option zw_Sh, z = sh9 := ⟨_, rfl⟩
  obtain ⟨g1, rfl⟩ : ∃ z : zm_T, z = g9 := ⟨_, rfl⟩
  have hM1 : zm_S sh1 := zm_Sc hM (fun r hr => (hf9.2 r hr).1)
  have ham1 : ad1 0 = am := (hf9.1 0 (by omega)).trans ham
  have hax1 : ad1 100 = ax := (hf9.1 100 (by omega)).trans hax
  have hg1 : g1 = zm_mix u g1 := by
    funext r
    by_cases h9 : r < 100
    · rw [zm_mixl h9, (hf9.2 r h9).2, hgm, zm_mixl h9]
    · rw [zm_mixr (by omega)]
  have hW : zw_St Y s.heap.size ad1 sh1 (zm_mix u g1) s H locs := by rw [← hg1]; exact hW
  refine lv_aload_n X.1 X.2.1 dL_law_364 rfl (lv_at hl 1 rfl) ?_
  refine lv_aload_n X.1 X.2.1 dL_law_365 rfl (lv_at hl 3 rfl) ?_
  refine lv_iload_n X.1 X.2.1 dL_law_366 rfl (lv_at hl 0 rfl) ?_
  refine lv_iconst (v := 1) X.1 X.2.1 dL_law_367 (by decide) ?_
  refine lv_iadd X.1 X.2.1 dL_law_368 ?_
  refine zr_eqi (v := nI (j + 1)) (nI_add j 1) ?_
  refine va_sld X.1 X.2.1 hX hbl hbA hW.2.1 (zi_vp (by rw [nI_toInt (by omega)]; omega)) dL_law_369 ?_
  refine lv_aload_n X.1 X.2.1 dL_law_370 rfl (lv_at hl 3 rfl) ?_
  refine lv_iload_n X.1 X.2.1 dL_law_371 rfl (lv_at hl 0 rfl) ?_
  refine lv_iconst (v := 2) X.1 X.2.1 dL_law_372 (by decide) ?_
  refine lv_iadd X.1 X.2.1 dL_law_373 ?_
  refine zr_eqi (v := nI (j + 2)) (nI_add j 2) ?_
  refine va_sld X.1 X.2.1 hX hbl hbA hW.2.1 (zi_vp (by rw [nI_toInt (by omega)]; omega)) dL_law_374 ?_
  refine zr_callV (As := [.int (xs (nI (j + 1)).toNatClampNeg), .int (xs (nI (j + 2)).toNatClampNeg)]) (rest := [.int ((sp_ask (xs (nI (j + 1)).toNatClampNeg) (xs (nI (j + 2)).toNatClampNeg) u).1)]) X hW hl.1 md_X10_ask ms_L_62 dL_law_375 (zm_s0 hM1) rfl rfl rfl (by rw [ham1] <;> rfl) (Nat.le_of_ble_eq_true rfl) ⟨Nat.le_of_ble_eq_true rfl, Nat.le_of_ble_eq_true rfl⟩ ⟨by show cells + 2 + 0 ≤ 600000; omega, by show slots + 8 + 0 ≤ 7302250; omega⟩ (c_X10_ask l Y _ ad1 sh1 u g1 hM1 (xs (nI (j + 1)).toNatClampNeg) (xs (nI (j + 2)).toNatClampNeg) hI) (fun v9 ad9 sh9 g9 H locs hp hW => ?_)
  obtain ⟨rfl, rfl, rfl, rfl⟩ := hp
  refine zr_icmp_eq (tgt := 826) X dL_law_378 (by decide) rfl rfl (fun _ => ?_) (fun c9 => absurd rfl c9)
  refine W.widen (k := cells + 2) (n := slots + 11) (by omega) (by omega) ?_
  exact kk _ _ _ (sp_ask (xs (nI (j + 1)).toNatClampNeg) (xs (nI (j + 2)).toNatClampNeg) u).2 _ _ ⟨hW, hM1, zc_Rc hR9 (fun r hr => ⟨rfl, zm_mixr hr⟩), (zm_mixm (u' := u)).symm, (zI_ask (xs (nI (j + 1)).toNatClampNeg) (xs (nI (j + 2)).toNatClampNeg) hI), hax1, ham1⟩

set_option maxHeartbeats 4000000 in
set_option maxRecDepth 100000 in
/-- receive -/
theorem lw_c9 {p : Program} {e : Env} {s : State} {m : MethodId} {below : List Frame} {meth : Method} {c : Code} {Q : State → Prop} (l : Launch) (Y : zw_Y) {b L : Nat} {xs : Nat → Int32} (hL : L ≤ 3073) (hbl : b < s.heap.size) (hX : va_X b L xs s s.heap) (X : zw_X p m meth c cL_law 4 (some .boolean) s #[Value.ref b] RL Y) (ax am j : Nat) (hj : j + 6 ≤ L) (ad : Nat → Nat) (sh : Nat → Option zw_Sh) (g u : zm_T) (H : Heap) (locs : List Loc) (cells slots : Nat) (ls : Array Slot) (h9 : lw_I Y s ax am ad sh g u H locs) (hcells : cells + 2 ≤ 600000) (hslots : slots + 11 ≤ 7302250) (hl : lv_has ls 4 [(3, .int (nI j)), (2, .ref am), (1, .ref ax), (0, .ref b)])
    (kk : ∀ (ad' : Nat → Nat) (sh' : Nat → Option zw_Sh) (g' u' : zm_T) (H' : Heap) (locs' : List Loc), lw_I Y s ax am ad' sh' g' u' H' locs' → W p l e room_1 s m #[Value.ref b] below meth c H' locs' (cells + 2) (slots + 11) Q (F0 m 826 ls [])) : W p l e room_1 s m #[Value.ref b] below meth c H locs cells slots Q (F0 m 383 ls []) := by
  obtain ⟨hW, hM, hR, hgm, hI, hax, ham⟩ := h9
  have hbA : ¬ (fun q : Nat => s.heap.size ≤ q) b := Nat.not_le.mpr hbl
  refine lv_aload_n X.1 X.2.1 dL_law_383 rfl (lv_at hl 2 rfl) ?_
  refine lv_aload_n X.1 X.2.1 dL_law_384 rfl (lv_at hl 3 rfl) ?_
  refine lv_iload_n X.1 X.2.1 dL_law_385 rfl (lv_at hl 0 rfl) ?_
  refine lv_iconst (v := 1) X.1 X.2.1 dL_law_386 (by decide) ?_
  refine lv_iadd X.1 X.2.1 dL_law_387 ?_
  refine zr_eqi (v := nI (j + 1)) (nI_add j 1) ?_
  refine va_sld X.1 X.2.1 hX hbl hbA hW.2.1 (zi_vp (by rw [nI_toInt (by omega)]; omega)) dL_law_388 ?_
  refine lv_aload_n X.1 X.2.1 dL_law_389 rfl (lv_at hl 3 rfl) ?_
  refine lv_iload_n X.1 X.2.1 dL_law_390 rfl (lv_at hl 0 rfl) ?_
  refine lv_iconst (v := 2) X.1 X.2.1 dL_law_391 (by decide) ?_
  refine lv_iadd X.1 X.2.1 dL_law_392 ?_
  refine zr_eqi (v := nI (j + 2)) (nI_add j 2) ?_
  refine va_sld X.1 X.2.1 hX hbl hbA hW.2.1 (zi_vp (by rw [nI_toInt (by omega)]; omega)) dL_law_393 ?_
  refine lv_aload_n X.1 X.2.1 dL_law_394 rfl (lv_at hl 3 rfl) ?_
  refine lv_iload_n X.1 X.2.1 dL_law_395 rfl (lv_at hl 0 rfl) ?_
  refine lv_iconst (v := 3) X.1 X.2.1 dL_law_396 (by decide) ?_
  refine lv_iadd X.1 X.2.1 dL_law_397 ?_
  refine zr_eqi (v := nI (j + 3)) (nI_add j 3) ?_
  refine va_sld X.1 X.2.1 hX hbl hbA hW.2.1 (zi_vp (by rw [nI_toInt (by omega)]; omega)) dL_law_398 ?_
  refine zr_callV (As := [.int (xs (nI (j + 1)).toNatClampNeg), .int (xs (nI (j + 2)).toNatClampNeg), .int (xs (nI (j + 3)).toNatClampNeg)]) (rest := []) X hW hl.1 md_X9_receive ms_L_63 dL_law_399 (zc_s100 hR.1) rfl rfl rfl (by rw [hax] <;> rfl) (Nat.le_of_ble_eq_true rfl) ⟨Nat.le_of_ble_eq_true rfl, Nat.le_of_ble_eq_true rfl⟩ ⟨by show cells + 0 ≤ 600000; omega, by show slots + 0 ≤ 7302250; omega⟩ (c_X9_receive l Y _ ad sh g u hR hI (xs (nI (j + 1)).toNatClampNeg) (xs (nI (j + 2)).toNatClampNeg) (xs (nI (j + 3)).toNatClampNeg)) (fun v9 ad9 sh9 g9 H locs hp hW => ?_)
  obtain ⟨rfl, hR9, hf9⟩ := hp
  obtain ⟨ad1, rfl⟩ : ∃ z : Nat → Nat, z = ad9 := ⟨_, rfl⟩
  obtain ⟨sh1, rfl⟩ : ∃ z : Nat → Option zw_Sh, z = sh9 := ⟨_, rfl⟩
  obtain ⟨g1, rfl⟩ : ∃ z : zm_T, z = g9 := ⟨_, rfl⟩
  have hM1 : zm_S sh1 := zm_Sc hM (fun r hr => (hf9.2 r hr).1)
  have ham1 : ad1 0 = am := (hf9.1 0 (by omega)).trans ham
  have hax1 : ad1 100 = ax := (hf9.1 100 (by omega)).trans hax
  have hg1 : g1 = zm_mix u g1 := by
    funext r
    by_cases h9 : r < 100
    · rw [zm_mixl h9, (hf9.2 r h9).2, hgm, zm_mixl h9]
    · rw [zm_mixr (by omega)]
  have hW : zw_St Y s.heap.size ad1 sh1 (zm_mix u g1) s H locs := by rw [← hg1]; exact hW
  refine lv_aload_n X.1 X.2.1 dL_law_402 rfl (lv_at hl 1 rfl) ?_
  refine lv_aload_n X.1 X.2.1 dL_law_403 rfl (lv_at hl 3 rfl) ?_
  refine lv_iload_n X.1 X.2.1 dL_law_404 rfl (lv_at hl 0 rfl) ?_
  refine lv_iconst (v := 1) X.1 X.2.1 dL_law_405 (by decide) ?_
  refine lv_iadd X.1 X.2.1 dL_law_406 ?_
  refine zr_eqi (v := nI (j + 1)) (nI_add j 1) ?_
  refine va_sld X.1 X.2.1 hX hbl hbA hW.2.1 (zi_vp (by rw [nI_toInt (by omega)]; omega)) dL_law_407 ?_
  refine lv_aload_n X.1 X.2.1 dL_law_408 rfl (lv_at hl 3 rfl) ?_
  refine lv_iload_n X.1 X.2.1 dL_law_409 rfl (lv_at hl 0 rfl) ?_
  refine lv_iconst (v := 2) X.1 X.2.1 dL_law_410 (by decide) ?_
  refine lv_iadd X.1 X.2.1 dL_law_411 ?_
  refine zr_eqi (v := nI (j + 2)) (nI_add j 2) ?_
  refine va_sld X.1 X.2.1 hX hbl hbA hW.2.1 (zi_vp (by rw [nI_toInt (by omega)]; omega)) dL_law_412 ?_
  refine lv_aload_n X.1 X.2.1 dL_law_413 rfl (lv_at hl 3 rfl) ?_
  refine lv_iload_n X.1 X.2.1 dL_law_414 rfl (lv_at hl 0 rfl) ?_
  refine lv_iconst (v := 3) X.1 X.2.1 dL_law_415 (by decide) ?_
  refine lv_iadd X.1 X.2.1 dL_law_416 ?_
  refine zr_eqi (v := nI (j + 3)) (nI_add j 3) ?_
  refine va_sld X.1 X.2.1 hX hbl hbA hW.2.1 (zi_vp (by rw [nI_toInt (by omega)]; omega)) dL_law_417 ?_
  refine zr_callV (As := [.int (xs (nI (j + 1)).toNatClampNeg), .int (xs (nI (j + 2)).toNatClampNeg), .int (xs (nI (j + 3)).toNatClampNeg)]) (rest := [.int ((sp_receive (xs (nI (j + 1)).toNatClampNeg) (xs (nI (j + 2)).toNatClampNeg) (xs (nI (j + 3)).toNatClampNeg) u).1)]) X hW hl.1 md_X10_receive ms_L_66 dL_law_418 (zm_s0 hM1) rfl rfl rfl (by rw [ham1] <;> rfl) (Nat.le_of_ble_eq_true rfl) ⟨Nat.le_of_ble_eq_true rfl, Nat.le_of_ble_eq_true rfl⟩ ⟨by show cells + 0 + 0 ≤ 600000; omega, by show slots + 0 + 0 ≤ 7302250; omega⟩ (c_X10_receive l Y _ ad1 sh1 u g1 hM1 (xs (nI (j + 1)).toNatClampNeg) (xs (nI (j + 2)).toNatClampNeg) (xs (nI (j + 3)).toNatClampNeg) hI) (fun v9 ad9 sh9 g9 H locs hp hW => ?_)
  obtain ⟨rfl, rfl, rfl, rfl⟩ := hp
  refine zr_icmp_eq (tgt := 826) X dL_law_421 (by decide) rfl rfl (fun _ => ?_) (fun c9 => absurd rfl c9)
  refine W.widen (k := cells + 2) (n := slots + 11) (by omega) (by omega) ?_
  exact kk _ _ _ (sp_receive (xs (nI (j + 1)).toNatClampNeg) (xs (nI (j + 2)).toNatClampNeg) (xs (nI (j + 3)).toNatClampNeg) u).2 _ _ ⟨hW, hM1, zc_Rc hR9 (fun r hr => ⟨rfl, zm_mixr hr⟩), (zm_mixm (u' := u)).symm, (zI_receive (xs (nI (j + 1)).toNatClampNeg) (xs (nI (j + 2)).toNatClampNeg) (xs (nI (j + 3)).toNatClampNeg) hI), hax1, ham1⟩

set_option maxHeartbeats 4000000 in
set_option maxRecDepth 100000 in
/-- order -/
theorem lw_c10 {p : Program} {e : Env} {s : State} {m : MethodId} {below : List Frame} {meth : Method} {c : Code} {Q : State → Prop} (l : Launch) (Y : zw_Y) {b L : Nat} {xs : Nat → Int32} (hL : L ≤ 3073) (hbl : b < s.heap.size) (hX : va_X b L xs s s.heap) (X : zw_X p m meth c cL_law 4 (some .boolean) s #[Value.ref b] RL Y) (ax am j : Nat) (hj : j + 6 ≤ L) (ad : Nat → Nat) (sh : Nat → Option zw_Sh) (g u : zm_T) (H : Heap) (locs : List Loc) (cells slots : Nat) (ls : Array Slot) (h9 : lw_I Y s ax am ad sh g u H locs) (hcells : cells + 2 ≤ 600000) (hslots : slots + 11 ≤ 7302250) (hl : lv_has ls 4 [(3, .int (nI j)), (2, .ref am), (1, .ref ax), (0, .ref b)])
    (kk : ∀ (ad' : Nat → Nat) (sh' : Nat → Option zw_Sh) (g' u' : zm_T) (H' : Heap) (locs' : List Loc), lw_I Y s ax am ad' sh' g' u' H' locs' → W p l e room_1 s m #[Value.ref b] below meth c H' locs' (cells + 2) (slots + 11) Q (F0 m 826 ls [])) : W p l e room_1 s m #[Value.ref b] below meth c H locs cells slots Q (F0 m 426 ls []) := by
  obtain ⟨hW, hM, hR, hgm, hI, hax, ham⟩ := h9
  have hbA : ¬ (fun q : Nat => s.heap.size ≤ q) b := Nat.not_le.mpr hbl
  refine lv_aload_n X.1 X.2.1 dL_law_426 rfl (lv_at hl 2 rfl) ?_
  refine lv_aload_n X.1 X.2.1 dL_law_427 rfl (lv_at hl 3 rfl) ?_
  refine lv_iload_n X.1 X.2.1 dL_law_428 rfl (lv_at hl 0 rfl) ?_
  refine lv_iconst (v := 1) X.1 X.2.1 dL_law_429 (by decide) ?_
  refine lv_iadd X.1 X.2.1 dL_law_430 ?_
  refine zr_eqi (v := nI (j + 1)) (nI_add j 1) ?_
  refine va_sld X.1 X.2.1 hX hbl hbA hW.2.1 (zi_vp (by rw [nI_toInt (by omega)]; omega)) dL_law_431 ?_
  refine lv_aload_n X.1 X.2.1 dL_law_432 rfl (lv_at hl 3 rfl) ?_
  refine lv_iload_n X.1 X.2.1 dL_law_433 rfl (lv_at hl 0 rfl) ?_
  refine lv_iconst (v := 2) X.1 X.2.1 dL_law_434 (by decide) ?_
  refine lv_iadd X.1 X.2.1 dL_law_435 ?_
  refine zr_eqi (v := nI (j + 2)) (nI_add j 2) ?_
  refine va_sld X.1 X.2.1 hX hbl hbA hW.2.1 (zi_vp (by rw [nI_toInt (by omega)]; omega)) dL_law_436 ?_
  refine lv_aload_n X.1 X.2.1 dL_law_437 rfl (lv_at hl 3 rfl) ?_
  refine lv_iload_n X.1 X.2.1 dL_law_438 rfl (lv_at hl 0 rfl) ?_
  refine lv_iconst (v := 3) X.1 X.2.1 dL_law_439 (by decide) ?_
  refine lv_iadd X.1 X.2.1 dL_law_440 ?_
  refine zr_eqi (v := nI (j + 3)) (nI_add j 3) ?_
  refine va_sld X.1 X.2.1 hX hbl hbA hW.2.1 (zi_vp (by rw [nI_toInt (by omega)]; omega)) dL_law_441 ?_
  refine lv_aload_n X.1 X.2.1 dL_law_442 rfl (lv_at hl 3 rfl) ?_
  refine lv_iload_n X.1 X.2.1 dL_law_443 rfl (lv_at hl 0 rfl) ?_
  refine lv_iconst (v := 4) X.1 X.2.1 dL_law_444 (by decide) ?_
  refine lv_iadd X.1 X.2.1 dL_law_445 ?_
  refine zr_eqi (v := nI (j + 4)) (nI_add j 4) ?_
  refine va_sld X.1 X.2.1 hX hbl hbA hW.2.1 (zi_vp (by rw [nI_toInt (by omega)]; omega)) dL_law_446 ?_
  refine zr_callV (As := [.int (xs (nI (j + 1)).toNatClampNeg), .int (xs (nI (j + 2)).toNatClampNeg), .int (xs (nI (j + 3)).toNatClampNeg), .int (xs (nI (j + 4)).toNatClampNeg)]) (rest := []) X hW hl.1 md_X9_order ms_L_67 dL_law_447 (zc_s100 hR.1) rfl rfl rfl (by rw [hax] <;> rfl) (Nat.le_of_ble_eq_true rfl) ⟨Nat.le_of_ble_eq_true rfl, Nat.le_of_ble_eq_true rfl⟩ ⟨by show cells + 2 ≤ 600000; omega, by show slots + 8 ≤ 7302250; omega⟩ (c_X9_order l Y _ ad sh g u hR hI (xs (nI (j + 1)).toNatClampNeg) (xs (nI (j + 2)).toNatClampNeg) (xs (nI (j + 3)).toNatClampNeg) (xs (nI (j + 4)).toNatClampNeg)) (fun v9 ad9 sh9 g9 H locs hp hW => ?_)
  obtain ⟨rfl, hR9, hf9⟩ := hp
  obtain ⟨ad1, rfl⟩ : ∃ z : Nat → Nat, z = ad9 := ⟨_, rfl⟩
  obtain ⟨sh1, rfl⟩ : ∃ z : Nat → Option zw_Sh, z = sh9 := ⟨_, rfl⟩
  obtain ⟨g1, rfl⟩ : ∃ z : zm_T, z = g9 := ⟨_, rfl⟩
  have hM1 : zm_S sh1 := zm_Sc hM (fun r hr => (hf9.2 r hr).1)
  have ham1 : ad1 0 = am := (hf9.1 0 (by omega)).trans ham
  have hax1 : ad1 100 = ax := (hf9.1 100 (by omega)).trans hax
  have hg1 : g1 = zm_mix u g1 := by
    funext r
    by_cases h9 : r < 100
    · rw [zm_mixl h9, (hf9.2 r h9).2, hgm, zm_mixl h9]
    · rw [zm_mixr (by omega)]
  have hW : zw_St Y s.heap.size ad1 sh1 (zm_mix u g1) s H locs := by rw [← hg1]; exact hW
  refine lv_aload_n X.1 X.2.1 dL_law_450 rfl (lv_at hl 1 rfl) ?_
  refine lv_aload_n X.1 X.2.1 dL_law_451 rfl (lv_at hl 3 rfl) ?_
  refine lv_iload_n X.1 X.2.1 dL_law_452 rfl (lv_at hl 0 rfl) ?_
  refine lv_iconst (v := 1) X.1 X.2.1 dL_law_453 (by decide) ?_
  refine lv_iadd X.1 X.2.1 dL_law_454 ?_
  refine zr_eqi (v := nI (j + 1)) (nI_add j 1) ?_
  refine va_sld X.1 X.2.1 hX hbl hbA hW.2.1 (zi_vp (by rw [nI_toInt (by omega)]; omega)) dL_law_455 ?_
  refine lv_aload_n X.1 X.2.1 dL_law_456 rfl (lv_at hl 3 rfl) ?_
  refine lv_iload_n X.1 X.2.1 dL_law_457 rfl (lv_at hl 0 rfl) ?_
  refine lv_iconst (v := 2) X.1 X.2.1 dL_law_458 (by decide) ?_
  refine lv_iadd X.1 X.2.1 dL_law_459 ?_
  refine zr_eqi (v := nI (j + 2)) (nI_add j 2) ?_
  refine va_sld X.1 X.2.1 hX hbl hbA hW.2.1 (zi_vp (by rw [nI_toInt (by omega)]; omega)) dL_law_460 ?_
  refine lv_aload_n X.1 X.2.1 dL_law_461 rfl (lv_at hl 3 rfl) ?_
  refine lv_iload_n X.1 X.2.1 dL_law_462 rfl (lv_at hl 0 rfl) ?_
  refine lv_iconst (v := 3) X.1 X.2.1 dL_law_463 (by decide) ?_
  refine lv_iadd X.1 X.2.1 dL_law_464 ?_
  refine zr_eqi (v := nI (j + 3)) (nI_add j 3) ?_
  refine va_sld X.1 X.2.1 hX hbl hbA hW.2.1 (zi_vp (by rw [nI_toInt (by omega)]; omega)) dL_law_465 ?_
  refine lv_aload_n X.1 X.2.1 dL_law_466 rfl (lv_at hl 3 rfl) ?_
  refine lv_iload_n X.1 X.2.1 dL_law_467 rfl (lv_at hl 0 rfl) ?_
  refine lv_iconst (v := 4) X.1 X.2.1 dL_law_468 (by decide) ?_
  refine lv_iadd X.1 X.2.1 dL_law_469 ?_
  refine zr_eqi (v := nI (j + 4)) (nI_add j 4) ?_
  refine va_sld X.1 X.2.1 hX hbl hbA hW.2.1 (zi_vp (by rw [nI_toInt (by omega)]; omega)) dL_law_470 ?_
  refine zr_callV (As := [.int (xs (nI (j + 1)).toNatClampNeg), .int (xs (nI (j + 2)).toNatClampNeg), .int (xs (nI (j + 3)).toNatClampNeg), .int (xs (nI (j + 4)).toNatClampNeg)]) (rest := [.int ((sp_order (xs (nI (j + 1)).toNatClampNeg) (xs (nI (j + 2)).toNatClampNeg) (xs (nI (j + 3)).toNatClampNeg) (xs (nI (j + 4)).toNatClampNeg) u).1)]) X hW hl.1 md_X10_order ms_L_71 dL_law_471 (zm_s0 hM1) rfl rfl rfl (by rw [ham1] <;> rfl) (Nat.le_of_ble_eq_true rfl) ⟨Nat.le_of_ble_eq_true rfl, Nat.le_of_ble_eq_true rfl⟩ ⟨by show cells + 2 + 0 ≤ 600000; omega, by show slots + 8 + 0 ≤ 7302250; omega⟩ (c_X10_order l Y _ ad1 sh1 u g1 hM1 (xs (nI (j + 1)).toNatClampNeg) (xs (nI (j + 2)).toNatClampNeg) (xs (nI (j + 3)).toNatClampNeg) (xs (nI (j + 4)).toNatClampNeg) hI) (fun v9 ad9 sh9 g9 H locs hp hW => ?_)
  obtain ⟨rfl, rfl, rfl, rfl⟩ := hp
  refine zr_icmp_eq (tgt := 826) X dL_law_474 (by decide) rfl rfl (fun _ => ?_) (fun c9 => absurd rfl c9)
  refine W.widen (k := cells + 2) (n := slots + 11) (by omega) (by omega) ?_
  exact kk _ _ _ (sp_order (xs (nI (j + 1)).toNatClampNeg) (xs (nI (j + 2)).toNatClampNeg) (xs (nI (j + 3)).toNatClampNeg) (xs (nI (j + 4)).toNatClampNeg) u).2 _ _ ⟨hW, hM1, zc_Rc hR9 (fun r hr => ⟨rfl, zm_mixr hr⟩), (zm_mixm (u' := u)).symm, (zI_order (xs (nI (j + 1)).toNatClampNeg) (xs (nI (j + 2)).toNatClampNeg) (xs (nI (j + 3)).toNatClampNeg) (xs (nI (j + 4)).toNatClampNeg) hI), hax1, ham1⟩

set_option maxHeartbeats 4000000 in
set_option maxRecDepth 100000 in
/-- issue -/
theorem lw_c11 {p : Program} {e : Env} {s : State} {m : MethodId} {below : List Frame} {meth : Method} {c : Code} {Q : State → Prop} (l : Launch) (Y : zw_Y) {b L : Nat} {xs : Nat → Int32} (hL : L ≤ 3073) (hbl : b < s.heap.size) (hX : va_X b L xs s s.heap) (X : zw_X p m meth c cL_law 4 (some .boolean) s #[Value.ref b] RL Y) (ax am j : Nat) (hj : j + 6 ≤ L) (ad : Nat → Nat) (sh : Nat → Option zw_Sh) (g u : zm_T) (H : Heap) (locs : List Loc) (cells slots : Nat) (ls : Array Slot) (h9 : lw_I Y s ax am ad sh g u H locs) (hcells : cells + 2 ≤ 600000) (hslots : slots + 11 ≤ 7302250) (hl : lv_has ls 4 [(3, .int (nI j)), (2, .ref am), (1, .ref ax), (0, .ref b)])
    (kk : ∀ (ad' : Nat → Nat) (sh' : Nat → Option zw_Sh) (g' u' : zm_T) (H' : Heap) (locs' : List Loc), lw_I Y s ax am ad' sh' g' u' H' locs' → W p l e room_1 s m #[Value.ref b] below meth c H' locs' (cells + 2) (slots + 11) Q (F0 m 826 ls [])) : W p l e room_1 s m #[Value.ref b] below meth c H locs cells slots Q (F0 m 479 ls []) := by
  obtain ⟨hW, hM, hR, hgm, hI, hax, ham⟩ := h9
  have hbA : ¬ (fun q : Nat => s.heap.size ≤ q) b := Nat.not_le.mpr hbl
  refine lv_aload_n X.1 X.2.1 dL_law_479 rfl (lv_at hl 2 rfl) ?_
  refine lv_aload_n X.1 X.2.1 dL_law_480 rfl (lv_at hl 3 rfl) ?_
  refine lv_iload_n X.1 X.2.1 dL_law_481 rfl (lv_at hl 0 rfl) ?_
  refine lv_iconst (v := 1) X.1 X.2.1 dL_law_482 (by decide) ?_
  refine lv_iadd X.1 X.2.1 dL_law_483 ?_
  refine zr_eqi (v := nI (j + 1)) (nI_add j 1) ?_
  refine va_sld X.1 X.2.1 hX hbl hbA hW.2.1 (zi_vp (by rw [nI_toInt (by omega)]; omega)) dL_law_484 ?_
  refine lv_aload_n X.1 X.2.1 dL_law_485 rfl (lv_at hl 3 rfl) ?_
  refine lv_iload_n X.1 X.2.1 dL_law_486 rfl (lv_at hl 0 rfl) ?_
  refine lv_iconst (v := 2) X.1 X.2.1 dL_law_487 (by decide) ?_
  refine lv_iadd X.1 X.2.1 dL_law_488 ?_
  refine zr_eqi (v := nI (j + 2)) (nI_add j 2) ?_
  refine va_sld X.1 X.2.1 hX hbl hbA hW.2.1 (zi_vp (by rw [nI_toInt (by omega)]; omega)) dL_law_489 ?_
  refine lv_aload_n X.1 X.2.1 dL_law_490 rfl (lv_at hl 3 rfl) ?_
  refine lv_iload_n X.1 X.2.1 dL_law_491 rfl (lv_at hl 0 rfl) ?_
  refine lv_iconst (v := 3) X.1 X.2.1 dL_law_492 (by decide) ?_
  refine lv_iadd X.1 X.2.1 dL_law_493 ?_
  refine zr_eqi (v := nI (j + 3)) (nI_add j 3) ?_
  refine va_sld X.1 X.2.1 hX hbl hbA hW.2.1 (zi_vp (by rw [nI_toInt (by omega)]; omega)) dL_law_494 ?_
  refine lv_aload_n X.1 X.2.1 dL_law_495 rfl (lv_at hl 3 rfl) ?_
  refine lv_iload_n X.1 X.2.1 dL_law_496 rfl (lv_at hl 0 rfl) ?_
  refine lv_iconst (v := 4) X.1 X.2.1 dL_law_497 (by decide) ?_
  refine lv_iadd X.1 X.2.1 dL_law_498 ?_
  refine zr_eqi (v := nI (j + 4)) (nI_add j 4) ?_
  refine va_sld X.1 X.2.1 hX hbl hbA hW.2.1 (zi_vp (by rw [nI_toInt (by omega)]; omega)) dL_law_499 ?_
  refine lv_aload_n X.1 X.2.1 dL_law_500 rfl (lv_at hl 3 rfl) ?_
  refine lv_iload_n X.1 X.2.1 dL_law_501 rfl (lv_at hl 0 rfl) ?_
  refine lv_iconst (v := 5) X.1 X.2.1 dL_law_502 (by decide) ?_
  refine lv_iadd X.1 X.2.1 dL_law_503 ?_
  refine zr_eqi (v := nI (j + 5)) (nI_add j 5) ?_
  refine va_sld X.1 X.2.1 hX hbl hbA hW.2.1 (zi_vp (by rw [nI_toInt (by omega)]; omega)) dL_law_504 ?_
  refine zr_callV (As := [.int (xs (nI (j + 1)).toNatClampNeg), .int (xs (nI (j + 2)).toNatClampNeg), .int (xs (nI (j + 3)).toNatClampNeg), .int (xs (nI (j + 4)).toNatClampNeg), .int (xs (nI (j + 5)).toNatClampNeg)]) (rest := []) X hW hl.1 md_X9_issue ms_L_72 dL_law_505 (zc_s100 hR.1) rfl rfl rfl (by rw [hax] <;> rfl) (Nat.le_of_ble_eq_true rfl) ⟨Nat.le_of_ble_eq_true rfl, Nat.le_of_ble_eq_true rfl⟩ ⟨by show cells + 2 ≤ 600000; omega, by show slots + 11 ≤ 7302250; omega⟩ (c_X9_issue l Y _ ad sh g u hR hI (xs (nI (j + 1)).toNatClampNeg) (xs (nI (j + 2)).toNatClampNeg) (xs (nI (j + 3)).toNatClampNeg) (xs (nI (j + 4)).toNatClampNeg) (xs (nI (j + 5)).toNatClampNeg)) (fun v9 ad9 sh9 g9 H locs hp hW => ?_)
  obtain ⟨rfl, hR9, hf9⟩ := hp
  obtain ⟨ad1, rfl⟩ : ∃ z : Nat → Nat, z = ad9 := ⟨_, rfl⟩
  obtain ⟨sh1, rfl⟩ : ∃ z : Nat → Option zw_Sh, z = sh9 := ⟨_, rfl⟩
  obtain ⟨g1, rfl⟩ : ∃ z : zm_T, z = g9 := ⟨_, rfl⟩
  have hM1 : zm_S sh1 := zm_Sc hM (fun r hr => (hf9.2 r hr).1)
  have ham1 : ad1 0 = am := (hf9.1 0 (by omega)).trans ham
  have hax1 : ad1 100 = ax := (hf9.1 100 (by omega)).trans hax
  have hg1 : g1 = zm_mix u g1 := by
    funext r
    by_cases h9 : r < 100
    · rw [zm_mixl h9, (hf9.2 r h9).2, hgm, zm_mixl h9]
    · rw [zm_mixr (by omega)]
  have hW : zw_St Y s.heap.size ad1 sh1 (zm_mix u g1) s H locs := by rw [← hg1]; exact hW
  refine lv_aload_n X.1 X.2.1 dL_law_508 rfl (lv_at hl 1 rfl) ?_
  refine lv_aload_n X.1 X.2.1 dL_law_509 rfl (lv_at hl 3 rfl) ?_
  refine lv_iload_n X.1 X.2.1 dL_law_510 rfl (lv_at hl 0 rfl) ?_
  refine lv_iconst (v := 1) X.1 X.2.1 dL_law_511 (by decide) ?_
  refine lv_iadd X.1 X.2.1 dL_law_512 ?_
  refine zr_eqi (v := nI (j + 1)) (nI_add j 1) ?_
  refine va_sld X.1 X.2.1 hX hbl hbA hW.2.1 (zi_vp (by rw [nI_toInt (by omega)]; omega)) dL_law_513 ?_
  refine lv_aload_n X.1 X.2.1 dL_law_514 rfl (lv_at hl 3 rfl) ?_
  refine lv_iload_n X.1 X.2.1 dL_law_515 rfl (lv_at hl 0 rfl) ?_
  refine lv_iconst (v := 2) X.1 X.2.1 dL_law_516 (by decide) ?_
  refine lv_iadd X.1 X.2.1 dL_law_517 ?_
  refine zr_eqi (v := nI (j + 2)) (nI_add j 2) ?_
  refine va_sld X.1 X.2.1 hX hbl hbA hW.2.1 (zi_vp (by rw [nI_toInt (by omega)]; omega)) dL_law_518 ?_
  refine lv_aload_n X.1 X.2.1 dL_law_519 rfl (lv_at hl 3 rfl) ?_
  refine lv_iload_n X.1 X.2.1 dL_law_520 rfl (lv_at hl 0 rfl) ?_
  refine lv_iconst (v := 3) X.1 X.2.1 dL_law_521 (by decide) ?_
  refine lv_iadd X.1 X.2.1 dL_law_522 ?_
  refine zr_eqi (v := nI (j + 3)) (nI_add j 3) ?_
  refine va_sld X.1 X.2.1 hX hbl hbA hW.2.1 (zi_vp (by rw [nI_toInt (by omega)]; omega)) dL_law_523 ?_
  refine lv_aload_n X.1 X.2.1 dL_law_524 rfl (lv_at hl 3 rfl) ?_
  refine lv_iload_n X.1 X.2.1 dL_law_525 rfl (lv_at hl 0 rfl) ?_
  refine lv_iconst (v := 4) X.1 X.2.1 dL_law_526 (by decide) ?_
  refine lv_iadd X.1 X.2.1 dL_law_527 ?_
  refine zr_eqi (v := nI (j + 4)) (nI_add j 4) ?_
  refine va_sld X.1 X.2.1 hX hbl hbA hW.2.1 (zi_vp (by rw [nI_toInt (by omega)]; omega)) dL_law_528 ?_
  refine lv_aload_n X.1 X.2.1 dL_law_529 rfl (lv_at hl 3 rfl) ?_
  refine lv_iload_n X.1 X.2.1 dL_law_530 rfl (lv_at hl 0 rfl) ?_
  refine lv_iconst (v := 5) X.1 X.2.1 dL_law_531 (by decide) ?_
  refine lv_iadd X.1 X.2.1 dL_law_532 ?_
  refine zr_eqi (v := nI (j + 5)) (nI_add j 5) ?_
  refine va_sld X.1 X.2.1 hX hbl hbA hW.2.1 (zi_vp (by rw [nI_toInt (by omega)]; omega)) dL_law_533 ?_
  refine zr_callV (As := [.int (xs (nI (j + 1)).toNatClampNeg), .int (xs (nI (j + 2)).toNatClampNeg), .int (xs (nI (j + 3)).toNatClampNeg), .int (xs (nI (j + 4)).toNatClampNeg), .int (xs (nI (j + 5)).toNatClampNeg)]) (rest := [.int ((sp_issue (xs (nI (j + 1)).toNatClampNeg) (xs (nI (j + 2)).toNatClampNeg) (xs (nI (j + 3)).toNatClampNeg) (xs (nI (j + 4)).toNatClampNeg) (xs (nI (j + 5)).toNatClampNeg) u).1)]) X hW hl.1 md_X10_issue ms_L_76 dL_law_534 (zm_s0 hM1) rfl rfl rfl (by rw [ham1] <;> rfl) (Nat.le_of_ble_eq_true rfl) ⟨Nat.le_of_ble_eq_true rfl, Nat.le_of_ble_eq_true rfl⟩ ⟨by show cells + 2 + 0 ≤ 600000; omega, by show slots + 11 + 0 ≤ 7302250; omega⟩ (c_X10_issue l Y _ ad1 sh1 u g1 hM1 (xs (nI (j + 1)).toNatClampNeg) (xs (nI (j + 2)).toNatClampNeg) (xs (nI (j + 3)).toNatClampNeg) (xs (nI (j + 4)).toNatClampNeg) (xs (nI (j + 5)).toNatClampNeg) hI) (fun v9 ad9 sh9 g9 H locs hp hW => ?_)
  obtain ⟨rfl, rfl, rfl, rfl⟩ := hp
  refine zr_icmp_eq (tgt := 826) X dL_law_537 (by decide) rfl rfl (fun _ => ?_) (fun c9 => absurd rfl c9)
  refine W.widen (k := cells + 2) (n := slots + 11) (by omega) (by omega) ?_
  exact kk _ _ _ (sp_issue (xs (nI (j + 1)).toNatClampNeg) (xs (nI (j + 2)).toNatClampNeg) (xs (nI (j + 3)).toNatClampNeg) (xs (nI (j + 4)).toNatClampNeg) (xs (nI (j + 5)).toNatClampNeg) u).2 _ _ ⟨hW, hM1, zc_Rc hR9 (fun r hr => ⟨rfl, zm_mixr hr⟩), (zm_mixm (u' := u)).symm, (zI_issue (xs (nI (j + 1)).toNatClampNeg) (xs (nI (j + 2)).toNatClampNeg) (xs (nI (j + 3)).toNatClampNeg) (xs (nI (j + 4)).toNatClampNeg) (xs (nI (j + 5)).toNatClampNeg) hI), hax1, ham1⟩

set_option maxHeartbeats 4000000 in
set_option maxRecDepth 100000 in
/-- grant -/
theorem lw_c12 {p : Program} {e : Env} {s : State} {m : MethodId} {below : List Frame} {meth : Method} {c : Code} {Q : State → Prop} (l : Launch) (Y : zw_Y) {b L : Nat} {xs : Nat → Int32} (hL : L ≤ 3073) (hbl : b < s.heap.size) (hX : va_X b L xs s s.heap) (X : zw_X p m meth c cL_law 4 (some .boolean) s #[Value.ref b] RL Y) (ax am j : Nat) (hj : j + 6 ≤ L) (ad : Nat → Nat) (sh : Nat → Option zw_Sh) (g u : zm_T) (H : Heap) (locs : List Loc) (cells slots : Nat) (ls : Array Slot) (h9 : lw_I Y s ax am ad sh g u H locs) (hcells : cells + 2 ≤ 600000) (hslots : slots + 11 ≤ 7302250) (hl : lv_has ls 4 [(3, .int (nI j)), (2, .ref am), (1, .ref ax), (0, .ref b)])
    (kk : ∀ (ad' : Nat → Nat) (sh' : Nat → Option zw_Sh) (g' u' : zm_T) (H' : Heap) (locs' : List Loc), lw_I Y s ax am ad' sh' g' u' H' locs' → W p l e room_1 s m #[Value.ref b] below meth c H' locs' (cells + 2) (slots + 11) Q (F0 m 826 ls [])) : W p l e room_1 s m #[Value.ref b] below meth c H locs cells slots Q (F0 m 542 ls []) := by
  obtain ⟨hW, hM, hR, hgm, hI, hax, ham⟩ := h9
  have hbA : ¬ (fun q : Nat => s.heap.size ≤ q) b := Nat.not_le.mpr hbl
  refine lv_aload_n X.1 X.2.1 dL_law_542 rfl (lv_at hl 2 rfl) ?_
  refine lv_aload_n X.1 X.2.1 dL_law_543 rfl (lv_at hl 3 rfl) ?_
  refine lv_iload_n X.1 X.2.1 dL_law_544 rfl (lv_at hl 0 rfl) ?_
  refine lv_iconst (v := 1) X.1 X.2.1 dL_law_545 (by decide) ?_
  refine lv_iadd X.1 X.2.1 dL_law_546 ?_
  refine zr_eqi (v := nI (j + 1)) (nI_add j 1) ?_
  refine va_sld X.1 X.2.1 hX hbl hbA hW.2.1 (zi_vp (by rw [nI_toInt (by omega)]; omega)) dL_law_547 ?_
  refine lv_aload_n X.1 X.2.1 dL_law_548 rfl (lv_at hl 3 rfl) ?_
  refine lv_iload_n X.1 X.2.1 dL_law_549 rfl (lv_at hl 0 rfl) ?_
  refine lv_iconst (v := 2) X.1 X.2.1 dL_law_550 (by decide) ?_
  refine lv_iadd X.1 X.2.1 dL_law_551 ?_
  refine zr_eqi (v := nI (j + 2)) (nI_add j 2) ?_
  refine va_sld X.1 X.2.1 hX hbl hbA hW.2.1 (zi_vp (by rw [nI_toInt (by omega)]; omega)) dL_law_552 ?_
  refine lv_aload_n X.1 X.2.1 dL_law_553 rfl (lv_at hl 3 rfl) ?_
  refine lv_iload_n X.1 X.2.1 dL_law_554 rfl (lv_at hl 0 rfl) ?_
  refine lv_iconst (v := 3) X.1 X.2.1 dL_law_555 (by decide) ?_
  refine lv_iadd X.1 X.2.1 dL_law_556 ?_
  refine zr_eqi (v := nI (j + 3)) (nI_add j 3) ?_
  refine va_sld X.1 X.2.1 hX hbl hbA hW.2.1 (zi_vp (by rw [nI_toInt (by omega)]; omega)) dL_law_557 ?_
  refine lv_aload_n X.1 X.2.1 dL_law_558 rfl (lv_at hl 3 rfl) ?_
  refine lv_iload_n X.1 X.2.1 dL_law_559 rfl (lv_at hl 0 rfl) ?_
  refine lv_iconst (v := 4) X.1 X.2.1 dL_law_560 (by decide) ?_
  refine lv_iadd X.1 X.2.1 dL_law_561 ?_
  refine zr_eqi (v := nI (j + 4)) (nI_add j 4) ?_
  refine va_sld X.1 X.2.1 hX hbl hbA hW.2.1 (zi_vp (by rw [nI_toInt (by omega)]; omega)) dL_law_562 ?_
  refine lv_aload_n X.1 X.2.1 dL_law_563 rfl (lv_at hl 3 rfl) ?_
  refine lv_iload_n X.1 X.2.1 dL_law_564 rfl (lv_at hl 0 rfl) ?_
  refine lv_iconst (v := 5) X.1 X.2.1 dL_law_565 (by decide) ?_
  refine lv_iadd X.1 X.2.1 dL_law_566 ?_
  refine zr_eqi (v := nI (j + 5)) (nI_add j 5) ?_
  refine va_sld X.1 X.2.1 hX hbl hbA hW.2.1 (zi_vp (by rw [nI_toInt (by omega)]; omega)) dL_law_567 ?_
  refine zr_callV (As := [.int (xs (nI (j + 1)).toNatClampNeg), .int (xs (nI (j + 2)).toNatClampNeg), .int (xs (nI (j + 3)).toNatClampNeg), .int (xs (nI (j + 4)).toNatClampNeg), .int (xs (nI (j + 5)).toNatClampNeg)]) (rest := []) X hW hl.1 md_X9_grant ms_L_77 dL_law_568 (zc_s100 hR.1) rfl rfl rfl (by rw [hax] <;> rfl) (Nat.le_of_ble_eq_true rfl) ⟨Nat.le_of_ble_eq_true rfl, Nat.le_of_ble_eq_true rfl⟩ ⟨by show cells + 2 ≤ 600000; omega, by show slots + 11 ≤ 7302250; omega⟩ (c_X9_grant l Y _ ad sh g u hR hI (xs (nI (j + 1)).toNatClampNeg) (xs (nI (j + 2)).toNatClampNeg) (xs (nI (j + 3)).toNatClampNeg) (xs (nI (j + 4)).toNatClampNeg) (xs (nI (j + 5)).toNatClampNeg)) (fun v9 ad9 sh9 g9 H locs hp hW => ?_)
  obtain ⟨rfl, hR9, hf9⟩ := hp
  obtain ⟨ad1, rfl⟩ : ∃ z : Nat → Nat, z = ad9 := ⟨_, rfl⟩
  obtain ⟨sh1, rfl⟩ : ∃ z : Nat → Option zw_Sh, z = sh9 := ⟨_, rfl⟩
  obtain ⟨g1, rfl⟩ : ∃ z : zm_T, z = g9 := ⟨_, rfl⟩
  have hM1 : zm_S sh1 := zm_Sc hM (fun r hr => (hf9.2 r hr).1)
  have ham1 : ad1 0 = am := (hf9.1 0 (by omega)).trans ham
  have hax1 : ad1 100 = ax := (hf9.1 100 (by omega)).trans hax
  have hg1 : g1 = zm_mix u g1 := by
    funext r
    by_cases h9 : r < 100
    · rw [zm_mixl h9, (hf9.2 r h9).2, hgm, zm_mixl h9]
    · rw [zm_mixr (by omega)]
  have hW : zw_St Y s.heap.size ad1 sh1 (zm_mix u g1) s H locs := by rw [← hg1]; exact hW
  refine lv_aload_n X.1 X.2.1 dL_law_571 rfl (lv_at hl 1 rfl) ?_
  refine lv_aload_n X.1 X.2.1 dL_law_572 rfl (lv_at hl 3 rfl) ?_
  refine lv_iload_n X.1 X.2.1 dL_law_573 rfl (lv_at hl 0 rfl) ?_
  refine lv_iconst (v := 1) X.1 X.2.1 dL_law_574 (by decide) ?_
  refine lv_iadd X.1 X.2.1 dL_law_575 ?_
  refine zr_eqi (v := nI (j + 1)) (nI_add j 1) ?_
  refine va_sld X.1 X.2.1 hX hbl hbA hW.2.1 (zi_vp (by rw [nI_toInt (by omega)]; omega)) dL_law_576 ?_
  refine lv_aload_n X.1 X.2.1 dL_law_577 rfl (lv_at hl 3 rfl) ?_
  refine lv_iload_n X.1 X.2.1 dL_law_578 rfl (lv_at hl 0 rfl) ?_
  refine lv_iconst (v := 2) X.1 X.2.1 dL_law_579 (by decide) ?_
  refine lv_iadd X.1 X.2.1 dL_law_580 ?_
  refine zr_eqi (v := nI (j + 2)) (nI_add j 2) ?_
  refine va_sld X.1 X.2.1 hX hbl hbA hW.2.1 (zi_vp (by rw [nI_toInt (by omega)]; omega)) dL_law_581 ?_
  refine lv_aload_n X.1 X.2.1 dL_law_582 rfl (lv_at hl 3 rfl) ?_
  refine lv_iload_n X.1 X.2.1 dL_law_583 rfl (lv_at hl 0 rfl) ?_
  refine lv_iconst (v := 3) X.1 X.2.1 dL_law_584 (by decide) ?_
  refine lv_iadd X.1 X.2.1 dL_law_585 ?_
  refine zr_eqi (v := nI (j + 3)) (nI_add j 3) ?_
  refine va_sld X.1 X.2.1 hX hbl hbA hW.2.1 (zi_vp (by rw [nI_toInt (by omega)]; omega)) dL_law_586 ?_
  refine lv_aload_n X.1 X.2.1 dL_law_587 rfl (lv_at hl 3 rfl) ?_
  refine lv_iload_n X.1 X.2.1 dL_law_588 rfl (lv_at hl 0 rfl) ?_
  refine lv_iconst (v := 4) X.1 X.2.1 dL_law_589 (by decide) ?_
  refine lv_iadd X.1 X.2.1 dL_law_590 ?_
  refine zr_eqi (v := nI (j + 4)) (nI_add j 4) ?_
  refine va_sld X.1 X.2.1 hX hbl hbA hW.2.1 (zi_vp (by rw [nI_toInt (by omega)]; omega)) dL_law_591 ?_
  refine lv_aload_n X.1 X.2.1 dL_law_592 rfl (lv_at hl 3 rfl) ?_
  refine lv_iload_n X.1 X.2.1 dL_law_593 rfl (lv_at hl 0 rfl) ?_
  refine lv_iconst (v := 5) X.1 X.2.1 dL_law_594 (by decide) ?_
  refine lv_iadd X.1 X.2.1 dL_law_595 ?_
  refine zr_eqi (v := nI (j + 5)) (nI_add j 5) ?_
  refine va_sld X.1 X.2.1 hX hbl hbA hW.2.1 (zi_vp (by rw [nI_toInt (by omega)]; omega)) dL_law_596 ?_
  refine zr_callV (As := [.int (xs (nI (j + 1)).toNatClampNeg), .int (xs (nI (j + 2)).toNatClampNeg), .int (xs (nI (j + 3)).toNatClampNeg), .int (xs (nI (j + 4)).toNatClampNeg), .int (xs (nI (j + 5)).toNatClampNeg)]) (rest := [.int ((sp_grant (xs (nI (j + 1)).toNatClampNeg) (xs (nI (j + 2)).toNatClampNeg) (xs (nI (j + 3)).toNatClampNeg) (xs (nI (j + 4)).toNatClampNeg) (xs (nI (j + 5)).toNatClampNeg) u).1)]) X hW hl.1 md_X10_grant ms_L_80 dL_law_597 (zm_s0 hM1) rfl rfl rfl (by rw [ham1] <;> rfl) (Nat.le_of_ble_eq_true rfl) ⟨Nat.le_of_ble_eq_true rfl, Nat.le_of_ble_eq_true rfl⟩ ⟨by show cells + 2 + 0 ≤ 600000; omega, by show slots + 11 + 0 ≤ 7302250; omega⟩ (c_X10_grant l Y _ ad1 sh1 u g1 hM1 (xs (nI (j + 1)).toNatClampNeg) (xs (nI (j + 2)).toNatClampNeg) (xs (nI (j + 3)).toNatClampNeg) (xs (nI (j + 4)).toNatClampNeg) (xs (nI (j + 5)).toNatClampNeg) hI) (fun v9 ad9 sh9 g9 H locs hp hW => ?_)
  obtain ⟨rfl, rfl, rfl, rfl⟩ := hp
  refine zr_icmp_eq (tgt := 826) X dL_law_600 (by decide) rfl rfl (fun _ => ?_) (fun c9 => absurd rfl c9)
  refine W.widen (k := cells + 2) (n := slots + 11) (by omega) (by omega) ?_
  exact kk _ _ _ (sp_grant (xs (nI (j + 1)).toNatClampNeg) (xs (nI (j + 2)).toNatClampNeg) (xs (nI (j + 3)).toNatClampNeg) (xs (nI (j + 4)).toNatClampNeg) (xs (nI (j + 5)).toNatClampNeg) u).2 _ _ ⟨hW, hM1, zc_Rc hR9 (fun r hr => ⟨rfl, zm_mixr hr⟩), (zm_mixm (u' := u)).symm, (zI_grant (xs (nI (j + 1)).toNatClampNeg) (xs (nI (j + 2)).toNatClampNeg) (xs (nI (j + 3)).toNatClampNeg) (xs (nI (j + 4)).toNatClampNeg) (xs (nI (j + 5)).toNatClampNeg) hI), hax1, ham1⟩

set_option maxHeartbeats 4000000 in
set_option maxRecDepth 100000 in
/-- serve -/
theorem lw_c13 {p : Program} {e : Env} {s : State} {m : MethodId} {below : List Frame} {meth : Method} {c : Code} {Q : State → Prop} (l : Launch) (Y : zw_Y) {b L : Nat} {xs : Nat → Int32} (hL : L ≤ 3073) (hbl : b < s.heap.size) (hX : va_X b L xs s s.heap) (X : zw_X p m meth c cL_law 4 (some .boolean) s #[Value.ref b] RL Y) (ax am j : Nat) (hj : j + 6 ≤ L) (ad : Nat → Nat) (sh : Nat → Option zw_Sh) (g u : zm_T) (H : Heap) (locs : List Loc) (cells slots : Nat) (ls : Array Slot) (h9 : lw_I Y s ax am ad sh g u H locs) (hcells : cells + 2 ≤ 600000) (hslots : slots + 11 ≤ 7302250) (hl : lv_has ls 4 [(3, .int (nI j)), (2, .ref am), (1, .ref ax), (0, .ref b)])
    (kk : ∀ (ad' : Nat → Nat) (sh' : Nat → Option zw_Sh) (g' u' : zm_T) (H' : Heap) (locs' : List Loc), lw_I Y s ax am ad' sh' g' u' H' locs' → W p l e room_1 s m #[Value.ref b] below meth c H' locs' (cells + 2) (slots + 11) Q (F0 m 826 ls [])) : W p l e room_1 s m #[Value.ref b] below meth c H locs cells slots Q (F0 m 605 ls []) := by
  obtain ⟨hW, hM, hR, hgm, hI, hax, ham⟩ := h9
  have hbA : ¬ (fun q : Nat => s.heap.size ≤ q) b := Nat.not_le.mpr hbl
  refine lv_aload_n X.1 X.2.1 dL_law_605 rfl (lv_at hl 2 rfl) ?_
  refine lv_aload_n X.1 X.2.1 dL_law_606 rfl (lv_at hl 3 rfl) ?_
  refine lv_iload_n X.1 X.2.1 dL_law_607 rfl (lv_at hl 0 rfl) ?_
  refine lv_iconst (v := 1) X.1 X.2.1 dL_law_608 (by decide) ?_
  refine lv_iadd X.1 X.2.1 dL_law_609 ?_
  refine zr_eqi (v := nI (j + 1)) (nI_add j 1) ?_
  refine va_sld X.1 X.2.1 hX hbl hbA hW.2.1 (zi_vp (by rw [nI_toInt (by omega)]; omega)) dL_law_610 ?_
  refine lv_aload_n X.1 X.2.1 dL_law_611 rfl (lv_at hl 3 rfl) ?_
  refine lv_iload_n X.1 X.2.1 dL_law_612 rfl (lv_at hl 0 rfl) ?_
  refine lv_iconst (v := 2) X.1 X.2.1 dL_law_613 (by decide) ?_
  refine lv_iadd X.1 X.2.1 dL_law_614 ?_
  refine zr_eqi (v := nI (j + 2)) (nI_add j 2) ?_
  refine va_sld X.1 X.2.1 hX hbl hbA hW.2.1 (zi_vp (by rw [nI_toInt (by omega)]; omega)) dL_law_615 ?_
  refine zr_callV (As := [.int (xs (nI (j + 1)).toNatClampNeg), .int (xs (nI (j + 2)).toNatClampNeg)]) (rest := []) X hW hl.1 md_X9_serve ms_L_81 dL_law_616 (zc_s100 hR.1) rfl rfl rfl (by rw [hax] <;> rfl) (Nat.le_of_ble_eq_true rfl) ⟨Nat.le_of_ble_eq_true rfl, Nat.le_of_ble_eq_true rfl⟩ ⟨by show cells + 0 ≤ 600000; omega, by show slots + 0 ≤ 7302250; omega⟩ (c_X9_serve l Y _ ad sh g u hR hI (xs (nI (j + 1)).toNatClampNeg) (xs (nI (j + 2)).toNatClampNeg)) (fun v9 ad9 sh9 g9 H locs hp hW => ?_)
  obtain ⟨rfl, hR9, hf9⟩ := hp
  obtain ⟨ad1, rfl⟩ : ∃ z : Nat → Nat, z = ad9 := ⟨_, rfl⟩
  obtain ⟨sh1, rfl⟩ : ∃ z : Nat → Option zw_Sh, z = sh9 := ⟨_, rfl⟩
  obtain ⟨g1, rfl⟩ : ∃ z : zm_T, z = g9 := ⟨_, rfl⟩
  have hM1 : zm_S sh1 := zm_Sc hM (fun r hr => (hf9.2 r hr).1)
  have ham1 : ad1 0 = am := (hf9.1 0 (by omega)).trans ham
  have hax1 : ad1 100 = ax := (hf9.1 100 (by omega)).trans hax
  have hg1 : g1 = zm_mix u g1 := by
    funext r
    by_cases h9 : r < 100
    · rw [zm_mixl h9, (hf9.2 r h9).2, hgm, zm_mixl h9]
    · rw [zm_mixr (by omega)]
  have hW : zw_St Y s.heap.size ad1 sh1 (zm_mix u g1) s H locs := by rw [← hg1]; exact hW
  refine lv_aload_n X.1 X.2.1 dL_law_619 rfl (lv_at hl 1 rfl) ?_
  refine lv_aload_n X.1 X.2.1 dL_law_620 rfl (lv_at hl 3 rfl) ?_
  refine lv_iload_n X.1 X.2.1 dL_law_621 rfl (lv_at hl 0 rfl) ?_
  refine lv_iconst (v := 1) X.1 X.2.1 dL_law_622 (by decide) ?_
  refine lv_iadd X.1 X.2.1 dL_law_623 ?_
  refine zr_eqi (v := nI (j + 1)) (nI_add j 1) ?_
  refine va_sld X.1 X.2.1 hX hbl hbA hW.2.1 (zi_vp (by rw [nI_toInt (by omega)]; omega)) dL_law_624 ?_
  refine lv_aload_n X.1 X.2.1 dL_law_625 rfl (lv_at hl 3 rfl) ?_
  refine lv_iload_n X.1 X.2.1 dL_law_626 rfl (lv_at hl 0 rfl) ?_
  refine lv_iconst (v := 2) X.1 X.2.1 dL_law_627 (by decide) ?_
  refine lv_iadd X.1 X.2.1 dL_law_628 ?_
  refine zr_eqi (v := nI (j + 2)) (nI_add j 2) ?_
  refine va_sld X.1 X.2.1 hX hbl hbA hW.2.1 (zi_vp (by rw [nI_toInt (by omega)]; omega)) dL_law_629 ?_
  refine zr_callV (As := [.int (xs (nI (j + 1)).toNatClampNeg), .int (xs (nI (j + 2)).toNatClampNeg)]) (rest := [.int ((sp_serve (xs (nI (j + 1)).toNatClampNeg) (xs (nI (j + 2)).toNatClampNeg) u).1)]) X hW hl.1 md_X10_serve ms_L_84 dL_law_630 (zm_s0 hM1) rfl rfl rfl (by rw [ham1] <;> rfl) (Nat.le_of_ble_eq_true rfl) ⟨Nat.le_of_ble_eq_true rfl, Nat.le_of_ble_eq_true rfl⟩ ⟨by show cells + 0 + 0 ≤ 600000; omega, by show slots + 0 + 0 ≤ 7302250; omega⟩ (c_X10_serve l Y _ ad1 sh1 u g1 hM1 (xs (nI (j + 1)).toNatClampNeg) (xs (nI (j + 2)).toNatClampNeg) hI) (fun v9 ad9 sh9 g9 H locs hp hW => ?_)
  obtain ⟨rfl, rfl, rfl, rfl⟩ := hp
  refine zr_icmp_eq (tgt := 826) X dL_law_633 (by decide) rfl rfl (fun _ => ?_) (fun c9 => absurd rfl c9)
  refine W.widen (k := cells + 2) (n := slots + 11) (by omega) (by omega) ?_
  exact kk _ _ _ (sp_serve (xs (nI (j + 1)).toNatClampNeg) (xs (nI (j + 2)).toNatClampNeg) u).2 _ _ ⟨hW, hM1, zc_Rc hR9 (fun r hr => ⟨rfl, zm_mixr hr⟩), (zm_mixm (u' := u)).symm, (zI_serve (xs (nI (j + 1)).toNatClampNeg) (xs (nI (j + 2)).toNatClampNeg) hI), hax1, ham1⟩

set_option maxHeartbeats 4000000 in
set_option maxRecDepth 100000 in
/-- answer -/
theorem lw_c14 {p : Program} {e : Env} {s : State} {m : MethodId} {below : List Frame} {meth : Method} {c : Code} {Q : State → Prop} (l : Launch) (Y : zw_Y) {b L : Nat} {xs : Nat → Int32} (hL : L ≤ 3073) (hbl : b < s.heap.size) (hX : va_X b L xs s s.heap) (X : zw_X p m meth c cL_law 4 (some .boolean) s #[Value.ref b] RL Y) (ax am j : Nat) (hj : j + 6 ≤ L) (ad : Nat → Nat) (sh : Nat → Option zw_Sh) (g u : zm_T) (H : Heap) (locs : List Loc) (cells slots : Nat) (ls : Array Slot) (h9 : lw_I Y s ax am ad sh g u H locs) (hcells : cells + 2 ≤ 600000) (hslots : slots + 11 ≤ 7302250) (hl : lv_has ls 4 [(3, .int (nI j)), (2, .ref am), (1, .ref ax), (0, .ref b)])
    (kk : ∀ (ad' : Nat → Nat) (sh' : Nat → Option zw_Sh) (g' u' : zm_T) (H' : Heap) (locs' : List Loc), lw_I Y s ax am ad' sh' g' u' H' locs' → W p l e room_1 s m #[Value.ref b] below meth c H' locs' (cells + 2) (slots + 11) Q (F0 m 826 ls [])) : W p l e room_1 s m #[Value.ref b] below meth c H locs cells slots Q (F0 m 638 ls []) := by
  obtain ⟨hW, hM, hR, hgm, hI, hax, ham⟩ := h9
  have hbA : ¬ (fun q : Nat => s.heap.size ≤ q) b := Nat.not_le.mpr hbl
  refine lv_aload_n X.1 X.2.1 dL_law_638 rfl (lv_at hl 2 rfl) ?_
  refine zr_callV (As := []) (rest := []) X hW hl.1 md_X9_answer ms_L_85 dL_law_639 (zc_s100 hR.1) rfl rfl rfl (by rw [hax] <;> rfl) (Nat.le_of_ble_eq_true rfl) ⟨Nat.le_of_ble_eq_true rfl, Nat.le_of_ble_eq_true rfl⟩ ⟨by show cells + 0 ≤ 600000; omega, by show slots + 0 ≤ 7302250; omega⟩ (c_X9_answer l Y _ ad sh g u hR hI) (fun v9 ad9 sh9 g9 H locs hp hW => ?_)
  obtain ⟨rfl, hR9, hf9⟩ := hp
  obtain ⟨ad1, rfl⟩ : ∃ z : Nat → Nat, z = ad9 := ⟨_, rfl⟩
  obtain ⟨sh1, rfl⟩ : ∃ z : Nat → Option zw_Sh, z = sh9 := ⟨_, rfl⟩
  obtain ⟨g1, rfl⟩ : ∃ z : zm_T, z = g9 := ⟨_, rfl⟩
  have hM1 : zm_S sh1 := zm_Sc hM (fun r hr => (hf9.2 r hr).1)
  have ham1 : ad1 0 = am := (hf9.1 0 (by omega)).trans ham
  have hax1 : ad1 100 = ax := (hf9.1 100 (by omega)).trans hax
  have hg1 : g1 = zm_mix u g1 := by
    funext r
    by_cases h9 : r < 100
    · rw [zm_mixl h9, (hf9.2 r h9).2, hgm, zm_mixl h9]
    · rw [zm_mixr (by omega)]
  have hW : zw_St Y s.heap.size ad1 sh1 (zm_mix u g1) s H locs := by rw [← hg1]; exact hW
  refine lv_aload_n X.1 X.2.1 dL_law_642 rfl (lv_at hl 1 rfl) ?_
  refine zr_callV (As := []) (rest := [.int ((sp_answer u).1)]) X hW hl.1 md_X10_answer ms_L_88 dL_law_643 (zm_s0 hM1) rfl rfl rfl (by rw [ham1] <;> rfl) (Nat.le_of_ble_eq_true rfl) ⟨Nat.le_of_ble_eq_true rfl, Nat.le_of_ble_eq_true rfl⟩ ⟨by show cells + 0 + 0 ≤ 600000; omega, by show slots + 0 + 0 ≤ 7302250; omega⟩ (c_X10_answer l Y _ ad1 sh1 u g1 hM1) (fun v9 ad9 sh9 g9 H locs hp hW => ?_)
  obtain ⟨rfl, rfl, rfl, _, rfl, rfl⟩ := hp
  refine zr_icmp_eq (tgt := 826) X dL_law_646 (by decide) rfl rfl (fun _ => ?_) (fun c9 => absurd rfl c9)
  refine W.widen (k := cells + 2) (n := slots + 11) (by omega) (by omega) ?_
  exact kk _ _ _ (sp_answer u).2 _ _ ⟨hW, hM1, zc_Rc hR9 (fun r hr => ⟨rfl, zm_mixr hr⟩), (zm_mixm (u' := u)).symm, hI, hax1, ham1⟩

set_option maxHeartbeats 4000000 in
set_option maxRecDepth 100000 in
/-- steal -/
theorem lw_c15 {p : Program} {e : Env} {s : State} {m : MethodId} {below : List Frame} {meth : Method} {c : Code} {Q : State → Prop} (l : Launch) (Y : zw_Y) {b L : Nat} {xs : Nat → Int32} (hL : L ≤ 3073) (hbl : b < s.heap.size) (hX : va_X b L xs s s.heap) (X : zw_X p m meth c cL_law 4 (some .boolean) s #[Value.ref b] RL Y) (ax am j : Nat) (hj : j + 6 ≤ L) (ad : Nat → Nat) (sh : Nat → Option zw_Sh) (g u : zm_T) (H : Heap) (locs : List Loc) (cells slots : Nat) (ls : Array Slot) (h9 : lw_I Y s ax am ad sh g u H locs) (hcells : cells + 2 ≤ 600000) (hslots : slots + 11 ≤ 7302250) (hl : lv_has ls 4 [(3, .int (nI j)), (2, .ref am), (1, .ref ax), (0, .ref b)])
    (kk : ∀ (ad' : Nat → Nat) (sh' : Nat → Option zw_Sh) (g' u' : zm_T) (H' : Heap) (locs' : List Loc), lw_I Y s ax am ad' sh' g' u' H' locs' → W p l e room_1 s m #[Value.ref b] below meth c H' locs' (cells + 2) (slots + 11) Q (F0 m 826 ls [])) : W p l e room_1 s m #[Value.ref b] below meth c H locs cells slots Q (F0 m 651 ls []) := by
  obtain ⟨hW, hM, hR, hgm, hI, hax, ham⟩ := h9
  have hbA : ¬ (fun q : Nat => s.heap.size ≤ q) b := Nat.not_le.mpr hbl
  refine lv_aload_n X.1 X.2.1 dL_law_651 rfl (lv_at hl 2 rfl) ?_
  refine lv_aload_n X.1 X.2.1 dL_law_652 rfl (lv_at hl 3 rfl) ?_
  refine lv_iload_n X.1 X.2.1 dL_law_653 rfl (lv_at hl 0 rfl) ?_
  refine lv_iconst (v := 1) X.1 X.2.1 dL_law_654 (by decide) ?_
  refine lv_iadd X.1 X.2.1 dL_law_655 ?_
  refine zr_eqi (v := nI (j + 1)) (nI_add j 1) ?_
  refine va_sld X.1 X.2.1 hX hbl hbA hW.2.1 (zi_vp (by rw [nI_toInt (by omega)]; omega)) dL_law_656 ?_
  refine zr_callV (As := [.int (xs (nI (j + 1)).toNatClampNeg)]) (rest := []) X hW hl.1 md_X9_steal ms_L_89 dL_law_657 (zc_s100 hR.1) rfl rfl rfl (by rw [hax] <;> rfl) (Nat.le_of_ble_eq_true rfl) ⟨Nat.le_of_ble_eq_true rfl, Nat.le_of_ble_eq_true rfl⟩ ⟨by show cells + 0 ≤ 600000; omega, by show slots + 0 ≤ 7302250; omega⟩ (c_X9_steal l Y _ ad sh g u hR hI (xs (nI (j + 1)).toNatClampNeg)) (fun v9 ad9 sh9 g9 H locs hp hW => ?_)
  obtain ⟨rfl, hR9, hf9⟩ := hp
  obtain ⟨ad1, rfl⟩ : ∃ z : Nat → Nat, z = ad9 := ⟨_, rfl⟩
  obtain ⟨sh1, rfl⟩ : ∃ z : Nat → Option zw_Sh, z = sh9 := ⟨_, rfl⟩
  obtain ⟨g1, rfl⟩ : ∃ z : zm_T, z = g9 := ⟨_, rfl⟩
  have hM1 : zm_S sh1 := zm_Sc hM (fun r hr => (hf9.2 r hr).1)
  have ham1 : ad1 0 = am := (hf9.1 0 (by omega)).trans ham
  have hax1 : ad1 100 = ax := (hf9.1 100 (by omega)).trans hax
  have hg1 : g1 = zm_mix u g1 := by
    funext r
    by_cases h9 : r < 100
    · rw [zm_mixl h9, (hf9.2 r h9).2, hgm, zm_mixl h9]
    · rw [zm_mixr (by omega)]
  have hW : zw_St Y s.heap.size ad1 sh1 (zm_mix u g1) s H locs := by rw [← hg1]; exact hW
  refine lv_aload_n X.1 X.2.1 dL_law_660 rfl (lv_at hl 1 rfl) ?_
  refine lv_aload_n X.1 X.2.1 dL_law_661 rfl (lv_at hl 3 rfl) ?_
  refine lv_iload_n X.1 X.2.1 dL_law_662 rfl (lv_at hl 0 rfl) ?_
  refine lv_iconst (v := 1) X.1 X.2.1 dL_law_663 (by decide) ?_
  refine lv_iadd X.1 X.2.1 dL_law_664 ?_
  refine zr_eqi (v := nI (j + 1)) (nI_add j 1) ?_
  refine va_sld X.1 X.2.1 hX hbl hbA hW.2.1 (zi_vp (by rw [nI_toInt (by omega)]; omega)) dL_law_665 ?_
  refine zr_callV (As := [.int (xs (nI (j + 1)).toNatClampNeg)]) (rest := [.int ((sp_steal (xs (nI (j + 1)).toNatClampNeg) u).1)]) X hW hl.1 md_X10_steal ms_L_92 dL_law_666 (zm_s0 hM1) rfl rfl rfl (by rw [ham1] <;> rfl) (Nat.le_of_ble_eq_true rfl) ⟨Nat.le_of_ble_eq_true rfl, Nat.le_of_ble_eq_true rfl⟩ ⟨by show cells + 0 + 0 ≤ 600000; omega, by show slots + 0 + 0 ≤ 7302250; omega⟩ (c_X10_steal l Y _ ad1 sh1 u g1 hM1 (xs (nI (j + 1)).toNatClampNeg) hI) (fun v9 ad9 sh9 g9 H locs hp hW => ?_)
  obtain ⟨rfl, rfl, rfl, rfl⟩ := hp
  refine zr_icmp_eq (tgt := 826) X dL_law_669 (by decide) rfl rfl (fun _ => ?_) (fun c9 => absurd rfl c9)
  refine W.widen (k := cells + 2) (n := slots + 11) (by omega) (by omega) ?_
  exact kk _ _ _ (sp_steal (xs (nI (j + 1)).toNatClampNeg) u).2 _ _ ⟨hW, hM1, zc_Rc hR9 (fun r hr => ⟨rfl, zm_mixr hr⟩), (zm_mixm (u' := u)).symm, (zI_steal (xs (nI (j + 1)).toNatClampNeg) hI), hax1, ham1⟩

set_option maxHeartbeats 4000000 in
set_option maxRecDepth 100000 in
/-- learn -/
theorem lw_c16 {p : Program} {e : Env} {s : State} {m : MethodId} {below : List Frame} {meth : Method} {c : Code} {Q : State → Prop} (l : Launch) (Y : zw_Y) {b L : Nat} {xs : Nat → Int32} (hL : L ≤ 3073) (hbl : b < s.heap.size) (hX : va_X b L xs s s.heap) (X : zw_X p m meth c cL_law 4 (some .boolean) s #[Value.ref b] RL Y) (ax am j : Nat) (hj : j + 6 ≤ L) (ad : Nat → Nat) (sh : Nat → Option zw_Sh) (g u : zm_T) (H : Heap) (locs : List Loc) (cells slots : Nat) (ls : Array Slot) (h9 : lw_I Y s ax am ad sh g u H locs) (hcells : cells + 2 ≤ 600000) (hslots : slots + 11 ≤ 7302250) (hl : lv_has ls 4 [(3, .int (nI j)), (2, .ref am), (1, .ref ax), (0, .ref b)])
    (kk : ∀ (ad' : Nat → Nat) (sh' : Nat → Option zw_Sh) (g' u' : zm_T) (H' : Heap) (locs' : List Loc), lw_I Y s ax am ad' sh' g' u' H' locs' → W p l e room_1 s m #[Value.ref b] below meth c H' locs' (cells + 2) (slots + 11) Q (F0 m 826 ls [])) : W p l e room_1 s m #[Value.ref b] below meth c H locs cells slots Q (F0 m 674 ls []) := by
  obtain ⟨hW, hM, hR, hgm, hI, hax, ham⟩ := h9
  have hbA : ¬ (fun q : Nat => s.heap.size ≤ q) b := Nat.not_le.mpr hbl
  refine lv_aload_n X.1 X.2.1 dL_law_674 rfl (lv_at hl 2 rfl) ?_
  refine lv_aload_n X.1 X.2.1 dL_law_675 rfl (lv_at hl 3 rfl) ?_
  refine lv_iload_n X.1 X.2.1 dL_law_676 rfl (lv_at hl 0 rfl) ?_
  refine lv_iconst (v := 1) X.1 X.2.1 dL_law_677 (by decide) ?_
  refine lv_iadd X.1 X.2.1 dL_law_678 ?_
  refine zr_eqi (v := nI (j + 1)) (nI_add j 1) ?_
  refine va_sld X.1 X.2.1 hX hbl hbA hW.2.1 (zi_vp (by rw [nI_toInt (by omega)]; omega)) dL_law_679 ?_
  refine zr_callV (As := [.int (xs (nI (j + 1)).toNatClampNeg)]) (rest := []) X hW hl.1 md_X9_learn ms_L_93 dL_law_680 (zc_s100 hR.1) rfl rfl rfl (by rw [hax] <;> rfl) (Nat.le_of_ble_eq_true rfl) ⟨Nat.le_of_ble_eq_true rfl, Nat.le_of_ble_eq_true rfl⟩ ⟨by show cells + 0 ≤ 600000; omega, by show slots + 0 ≤ 7302250; omega⟩ (c_X9_learn l Y _ ad sh g u hR hI (xs (nI (j + 1)).toNatClampNeg)) (fun v9 ad9 sh9 g9 H locs hp hW => ?_)
  obtain ⟨rfl, hR9, hf9⟩ := hp
  obtain ⟨ad1, rfl⟩ : ∃ z : Nat → Nat, z = ad9 := ⟨_, rfl⟩
  obtain ⟨sh1, rfl⟩ : ∃ z : Nat → Option zw_Sh, z = sh9 := ⟨_, rfl⟩
  obtain ⟨g1, rfl⟩ : ∃ z : zm_T, z = g9 := ⟨_, rfl⟩
  have hM1 : zm_S sh1 := zm_Sc hM (fun r hr => (hf9.2 r hr).1)
  have ham1 : ad1 0 = am := (hf9.1 0 (by omega)).trans ham
  have hax1 : ad1 100 = ax := (hf9.1 100 (by omega)).trans hax
  have hg1 : g1 = zm_mix u g1 := by
    funext r
    by_cases h9 : r < 100
    · rw [zm_mixl h9, (hf9.2 r h9).2, hgm, zm_mixl h9]
    · rw [zm_mixr (by omega)]
  have hW : zw_St Y s.heap.size ad1 sh1 (zm_mix u g1) s H locs := by rw [← hg1]; exact hW
  refine lv_aload_n X.1 X.2.1 dL_law_683 rfl (lv_at hl 1 rfl) ?_
  refine lv_aload_n X.1 X.2.1 dL_law_684 rfl (lv_at hl 3 rfl) ?_
  refine lv_iload_n X.1 X.2.1 dL_law_685 rfl (lv_at hl 0 rfl) ?_
  refine lv_iconst (v := 1) X.1 X.2.1 dL_law_686 (by decide) ?_
  refine lv_iadd X.1 X.2.1 dL_law_687 ?_
  refine zr_eqi (v := nI (j + 1)) (nI_add j 1) ?_
  refine va_sld X.1 X.2.1 hX hbl hbA hW.2.1 (zi_vp (by rw [nI_toInt (by omega)]; omega)) dL_law_688 ?_
  refine zr_callV (As := [.int (xs (nI (j + 1)).toNatClampNeg)]) (rest := [.int ((sp_learn (xs (nI (j + 1)).toNatClampNeg) u).1)]) X hW hl.1 md_X10_learn ms_L_96 dL_law_689 (zm_s0 hM1) rfl rfl rfl (by rw [ham1] <;> rfl) (Nat.le_of_ble_eq_true rfl) ⟨Nat.le_of_ble_eq_true rfl, Nat.le_of_ble_eq_true rfl⟩ ⟨by show cells + 0 + 0 ≤ 600000; omega, by show slots + 0 + 0 ≤ 7302250; omega⟩ (c_X10_learn l Y _ ad1 sh1 u g1 hM1 (xs (nI (j + 1)).toNatClampNeg) hI) (fun v9 ad9 sh9 g9 H locs hp hW => ?_)
  obtain ⟨rfl, rfl, rfl, rfl⟩ := hp
  refine zr_icmp_eq (tgt := 826) X dL_law_692 (by decide) rfl rfl (fun _ => ?_) (fun c9 => absurd rfl c9)
  refine W.widen (k := cells + 2) (n := slots + 11) (by omega) (by omega) ?_
  exact kk _ _ _ (sp_learn (xs (nI (j + 1)).toNatClampNeg) u).2 _ _ ⟨hW, hM1, zc_Rc hR9 (fun r hr => ⟨rfl, zm_mixr hr⟩), (zm_mixm (u' := u)).symm, (zI_learn (xs (nI (j + 1)).toNatClampNeg) hI), hax1, ham1⟩

set_option maxHeartbeats 4000000 in
set_option maxRecDepth 100000 in
/-- forge -/
theorem lw_c17 {p : Program} {e : Env} {s : State} {m : MethodId} {below : List Frame} {meth : Method} {c : Code} {Q : State → Prop} (l : Launch) (Y : zw_Y) {b L : Nat} {xs : Nat → Int32} (hL : L ≤ 3073) (hbl : b < s.heap.size) (hX : va_X b L xs s s.heap) (X : zw_X p m meth c cL_law 4 (some .boolean) s #[Value.ref b] RL Y) (ax am j : Nat) (hj : j + 6 ≤ L) (ad : Nat → Nat) (sh : Nat → Option zw_Sh) (g u : zm_T) (H : Heap) (locs : List Loc) (cells slots : Nat) (ls : Array Slot) (h9 : lw_I Y s ax am ad sh g u H locs) (hcells : cells + 2 ≤ 600000) (hslots : slots + 11 ≤ 7302250) (hl : lv_has ls 4 [(3, .int (nI j)), (2, .ref am), (1, .ref ax), (0, .ref b)])
    (kk : ∀ (ad' : Nat → Nat) (sh' : Nat → Option zw_Sh) (g' u' : zm_T) (H' : Heap) (locs' : List Loc), lw_I Y s ax am ad' sh' g' u' H' locs' → W p l e room_1 s m #[Value.ref b] below meth c H' locs' (cells + 2) (slots + 11) Q (F0 m 826 ls [])) : W p l e room_1 s m #[Value.ref b] below meth c H locs cells slots Q (F0 m 697 ls []) := by
  obtain ⟨hW, hM, hR, hgm, hI, hax, ham⟩ := h9
  have hbA : ¬ (fun q : Nat => s.heap.size ≤ q) b := Nat.not_le.mpr hbl
  refine lv_aload_n X.1 X.2.1 dL_law_697 rfl (lv_at hl 2 rfl) ?_
  refine lv_aload_n X.1 X.2.1 dL_law_698 rfl (lv_at hl 3 rfl) ?_
  refine lv_iload_n X.1 X.2.1 dL_law_699 rfl (lv_at hl 0 rfl) ?_
  refine lv_iconst (v := 1) X.1 X.2.1 dL_law_700 (by decide) ?_
  refine lv_iadd X.1 X.2.1 dL_law_701 ?_
  refine zr_eqi (v := nI (j + 1)) (nI_add j 1) ?_
  refine va_sld X.1 X.2.1 hX hbl hbA hW.2.1 (zi_vp (by rw [nI_toInt (by omega)]; omega)) dL_law_702 ?_
  refine lv_aload_n X.1 X.2.1 dL_law_703 rfl (lv_at hl 3 rfl) ?_
  refine lv_iload_n X.1 X.2.1 dL_law_704 rfl (lv_at hl 0 rfl) ?_
  refine lv_iconst (v := 2) X.1 X.2.1 dL_law_705 (by decide) ?_
  refine lv_iadd X.1 X.2.1 dL_law_706 ?_
  refine zr_eqi (v := nI (j + 2)) (nI_add j 2) ?_
  refine va_sld X.1 X.2.1 hX hbl hbA hW.2.1 (zi_vp (by rw [nI_toInt (by omega)]; omega)) dL_law_707 ?_
  refine lv_aload_n X.1 X.2.1 dL_law_708 rfl (lv_at hl 3 rfl) ?_
  refine lv_iload_n X.1 X.2.1 dL_law_709 rfl (lv_at hl 0 rfl) ?_
  refine lv_iconst (v := 3) X.1 X.2.1 dL_law_710 (by decide) ?_
  refine lv_iadd X.1 X.2.1 dL_law_711 ?_
  refine zr_eqi (v := nI (j + 3)) (nI_add j 3) ?_
  refine va_sld X.1 X.2.1 hX hbl hbA hW.2.1 (zi_vp (by rw [nI_toInt (by omega)]; omega)) dL_law_712 ?_
  refine lv_aload_n X.1 X.2.1 dL_law_713 rfl (lv_at hl 3 rfl) ?_
  refine lv_iload_n X.1 X.2.1 dL_law_714 rfl (lv_at hl 0 rfl) ?_
  refine lv_iconst (v := 4) X.1 X.2.1 dL_law_715 (by decide) ?_
  refine lv_iadd X.1 X.2.1 dL_law_716 ?_
  refine zr_eqi (v := nI (j + 4)) (nI_add j 4) ?_
  refine va_sld X.1 X.2.1 hX hbl hbA hW.2.1 (zi_vp (by rw [nI_toInt (by omega)]; omega)) dL_law_717 ?_
  refine lv_aload_n X.1 X.2.1 dL_law_718 rfl (lv_at hl 3 rfl) ?_
  refine lv_iload_n X.1 X.2.1 dL_law_719 rfl (lv_at hl 0 rfl) ?_
  refine lv_iconst (v := 5) X.1 X.2.1 dL_law_720 (by decide) ?_
  refine lv_iadd X.1 X.2.1 dL_law_721 ?_
  refine zr_eqi (v := nI (j + 5)) (nI_add j 5) ?_
  refine va_sld X.1 X.2.1 hX hbl hbA hW.2.1 (zi_vp (by rw [nI_toInt (by omega)]; omega)) dL_law_722 ?_
  refine zr_callV (As := [.int (xs (nI (j + 1)).toNatClampNeg), .int (xs (nI (j + 2)).toNatClampNeg), .int (xs (nI (j + 3)).toNatClampNeg), .int (xs (nI (j + 4)).toNatClampNeg), .int (xs (nI (j + 5)).toNatClampNeg)]) (rest := []) X hW hl.1 md_X9_forge ms_L_97 dL_law_723 (zc_s100 hR.1) rfl rfl rfl (by rw [hax] <;> rfl) (Nat.le_of_ble_eq_true rfl) ⟨Nat.le_of_ble_eq_true rfl, Nat.le_of_ble_eq_true rfl⟩ ⟨by show cells + 2 ≤ 600000; omega, by show slots + 8 ≤ 7302250; omega⟩ (c_X9_forge l Y _ ad sh g u hR hI (xs (nI (j + 1)).toNatClampNeg) (xs (nI (j + 2)).toNatClampNeg) (xs (nI (j + 3)).toNatClampNeg) (xs (nI (j + 4)).toNatClampNeg) (xs (nI (j + 5)).toNatClampNeg)) (fun v9 ad9 sh9 g9 H locs hp hW => ?_)
  obtain ⟨rfl, hR9, hf9⟩ := hp
  obtain ⟨ad1, rfl⟩ : ∃ z : Nat → Nat, z = ad9 := ⟨_, rfl⟩
  obtain ⟨sh1, rfl⟩ : ∃ z : Nat → Option zw_Sh, z = sh9 := ⟨_, rfl⟩
  obtain ⟨g1, rfl⟩ : ∃ z : zm_T, z = g9 := ⟨_, rfl⟩
  have hM1 : zm_S sh1 := zm_Sc hM (fun r hr => (hf9.2 r hr).1)
  have ham1 : ad1 0 = am := (hf9.1 0 (by omega)).trans ham
  have hax1 : ad1 100 = ax := (hf9.1 100 (by omega)).trans hax
  have hg1 : g1 = zm_mix u g1 := by
    funext r
    by_cases h9 : r < 100
    · rw [zm_mixl h9, (hf9.2 r h9).2, hgm, zm_mixl h9]
    · rw [zm_mixr (by omega)]
  have hW : zw_St Y s.heap.size ad1 sh1 (zm_mix u g1) s H locs := by rw [← hg1]; exact hW
  refine lv_aload_n X.1 X.2.1 dL_law_726 rfl (lv_at hl 1 rfl) ?_
  refine lv_aload_n X.1 X.2.1 dL_law_727 rfl (lv_at hl 3 rfl) ?_
  refine lv_iload_n X.1 X.2.1 dL_law_728 rfl (lv_at hl 0 rfl) ?_
  refine lv_iconst (v := 1) X.1 X.2.1 dL_law_729 (by decide) ?_
  refine lv_iadd X.1 X.2.1 dL_law_730 ?_
  refine zr_eqi (v := nI (j + 1)) (nI_add j 1) ?_
  refine va_sld X.1 X.2.1 hX hbl hbA hW.2.1 (zi_vp (by rw [nI_toInt (by omega)]; omega)) dL_law_731 ?_
  refine lv_aload_n X.1 X.2.1 dL_law_732 rfl (lv_at hl 3 rfl) ?_
  refine lv_iload_n X.1 X.2.1 dL_law_733 rfl (lv_at hl 0 rfl) ?_
  refine lv_iconst (v := 2) X.1 X.2.1 dL_law_734 (by decide) ?_
  refine lv_iadd X.1 X.2.1 dL_law_735 ?_
  refine zr_eqi (v := nI (j + 2)) (nI_add j 2) ?_
  refine va_sld X.1 X.2.1 hX hbl hbA hW.2.1 (zi_vp (by rw [nI_toInt (by omega)]; omega)) dL_law_736 ?_
  refine lv_aload_n X.1 X.2.1 dL_law_737 rfl (lv_at hl 3 rfl) ?_
  refine lv_iload_n X.1 X.2.1 dL_law_738 rfl (lv_at hl 0 rfl) ?_
  refine lv_iconst (v := 3) X.1 X.2.1 dL_law_739 (by decide) ?_
  refine lv_iadd X.1 X.2.1 dL_law_740 ?_
  refine zr_eqi (v := nI (j + 3)) (nI_add j 3) ?_
  refine va_sld X.1 X.2.1 hX hbl hbA hW.2.1 (zi_vp (by rw [nI_toInt (by omega)]; omega)) dL_law_741 ?_
  refine lv_aload_n X.1 X.2.1 dL_law_742 rfl (lv_at hl 3 rfl) ?_
  refine lv_iload_n X.1 X.2.1 dL_law_743 rfl (lv_at hl 0 rfl) ?_
  refine lv_iconst (v := 4) X.1 X.2.1 dL_law_744 (by decide) ?_
  refine lv_iadd X.1 X.2.1 dL_law_745 ?_
  refine zr_eqi (v := nI (j + 4)) (nI_add j 4) ?_
  refine va_sld X.1 X.2.1 hX hbl hbA hW.2.1 (zi_vp (by rw [nI_toInt (by omega)]; omega)) dL_law_746 ?_
  refine lv_aload_n X.1 X.2.1 dL_law_747 rfl (lv_at hl 3 rfl) ?_
  refine lv_iload_n X.1 X.2.1 dL_law_748 rfl (lv_at hl 0 rfl) ?_
  refine lv_iconst (v := 5) X.1 X.2.1 dL_law_749 (by decide) ?_
  refine lv_iadd X.1 X.2.1 dL_law_750 ?_
  refine zr_eqi (v := nI (j + 5)) (nI_add j 5) ?_
  refine va_sld X.1 X.2.1 hX hbl hbA hW.2.1 (zi_vp (by rw [nI_toInt (by omega)]; omega)) dL_law_751 ?_
  refine zr_callV (As := [.int (xs (nI (j + 1)).toNatClampNeg), .int (xs (nI (j + 2)).toNatClampNeg), .int (xs (nI (j + 3)).toNatClampNeg), .int (xs (nI (j + 4)).toNatClampNeg), .int (xs (nI (j + 5)).toNatClampNeg)]) (rest := [.int ((sp_forge (xs (nI (j + 1)).toNatClampNeg) (xs (nI (j + 2)).toNatClampNeg) (xs (nI (j + 3)).toNatClampNeg) (xs (nI (j + 4)).toNatClampNeg) (xs (nI (j + 5)).toNatClampNeg) u).1)]) X hW hl.1 md_X10_forge ms_L_100 dL_law_752 (zm_s0 hM1) rfl rfl rfl (by rw [ham1] <;> rfl) (Nat.le_of_ble_eq_true rfl) ⟨Nat.le_of_ble_eq_true rfl, Nat.le_of_ble_eq_true rfl⟩ ⟨by show cells + 2 + 0 ≤ 600000; omega, by show slots + 8 + 0 ≤ 7302250; omega⟩ (c_X10_forge l Y _ ad1 sh1 u g1 hM1 (xs (nI (j + 1)).toNatClampNeg) (xs (nI (j + 2)).toNatClampNeg) (xs (nI (j + 3)).toNatClampNeg) (xs (nI (j + 4)).toNatClampNeg) (xs (nI (j + 5)).toNatClampNeg) hI) (fun v9 ad9 sh9 g9 H locs hp hW => ?_)
  obtain ⟨rfl, rfl, rfl, rfl⟩ := hp
  refine zr_icmp_eq (tgt := 826) X dL_law_755 (by decide) rfl rfl (fun _ => ?_) (fun c9 => absurd rfl c9)
  refine W.widen (k := cells + 2) (n := slots + 11) (by omega) (by omega) ?_
  exact kk _ _ _ (sp_forge (xs (nI (j + 1)).toNatClampNeg) (xs (nI (j + 2)).toNatClampNeg) (xs (nI (j + 3)).toNatClampNeg) (xs (nI (j + 4)).toNatClampNeg) (xs (nI (j + 5)).toNatClampNeg) u).2 _ _ ⟨hW, hM1, zc_Rc hR9 (fun r hr => ⟨rfl, zm_mixr hr⟩), (zm_mixm (u' := u)).symm, (zI_forge (xs (nI (j + 1)).toNatClampNeg) (xs (nI (j + 2)).toNatClampNeg) (xs (nI (j + 3)).toNatClampNeg) (xs (nI (j + 4)).toNatClampNeg) (xs (nI (j + 5)).toNatClampNeg) hI), hax1, ham1⟩

set_option maxHeartbeats 4000000 in
set_option maxRecDepth 100000 in
/-- seal -/
theorem lw_c18 {p : Program} {e : Env} {s : State} {m : MethodId} {below : List Frame} {meth : Method} {c : Code} {Q : State → Prop} (l : Launch) (Y : zw_Y) {b L : Nat} {xs : Nat → Int32} (hL : L ≤ 3073) (hbl : b < s.heap.size) (hX : va_X b L xs s s.heap) (X : zw_X p m meth c cL_law 4 (some .boolean) s #[Value.ref b] RL Y) (ax am j : Nat) (hj : j + 6 ≤ L) (ad : Nat → Nat) (sh : Nat → Option zw_Sh) (g u : zm_T) (H : Heap) (locs : List Loc) (cells slots : Nat) (ls : Array Slot) (h9 : lw_I Y s ax am ad sh g u H locs) (hcells : cells + 2 ≤ 600000) (hslots : slots + 11 ≤ 7302250) (hl : lv_has ls 4 [(3, .int (nI j)), (2, .ref am), (1, .ref ax), (0, .ref b)])
    (kk : ∀ (ad' : Nat → Nat) (sh' : Nat → Option zw_Sh) (g' u' : zm_T) (H' : Heap) (locs' : List Loc), lw_I Y s ax am ad' sh' g' u' H' locs' → W p l e room_1 s m #[Value.ref b] below meth c H' locs' (cells + 2) (slots + 11) Q (F0 m 826 ls [])) : W p l e room_1 s m #[Value.ref b] below meth c H locs cells slots Q (F0 m 760 ls []) := by
  obtain ⟨hW, hM, hR, hgm, hI, hax, ham⟩ := h9
  have hbA : ¬ (fun q : Nat => s.heap.size ≤ q) b := Nat.not_le.mpr hbl
  refine lv_aload_n X.1 X.2.1 dL_law_760 rfl (lv_at hl 2 rfl) ?_
  refine lv_aload_n X.1 X.2.1 dL_law_761 rfl (lv_at hl 3 rfl) ?_
  refine lv_iload_n X.1 X.2.1 dL_law_762 rfl (lv_at hl 0 rfl) ?_
  refine lv_iconst (v := 1) X.1 X.2.1 dL_law_763 (by decide) ?_
  refine lv_iadd X.1 X.2.1 dL_law_764 ?_
  refine zr_eqi (v := nI (j + 1)) (nI_add j 1) ?_
  refine va_sld X.1 X.2.1 hX hbl hbA hW.2.1 (zi_vp (by rw [nI_toInt (by omega)]; omega)) dL_law_765 ?_
  refine lv_aload_n X.1 X.2.1 dL_law_766 rfl (lv_at hl 3 rfl) ?_
  refine lv_iload_n X.1 X.2.1 dL_law_767 rfl (lv_at hl 0 rfl) ?_
  refine lv_iconst (v := 2) X.1 X.2.1 dL_law_768 (by decide) ?_
  refine lv_iadd X.1 X.2.1 dL_law_769 ?_
  refine zr_eqi (v := nI (j + 2)) (nI_add j 2) ?_
  refine va_sld X.1 X.2.1 hX hbl hbA hW.2.1 (zi_vp (by rw [nI_toInt (by omega)]; omega)) dL_law_770 ?_
  refine zr_callV (As := [.int (xs (nI (j + 1)).toNatClampNeg), .int (xs (nI (j + 2)).toNatClampNeg)]) (rest := []) X hW hl.1 md_X9_seal ms_L_101 dL_law_771 (zc_s100 hR.1) rfl rfl rfl (by rw [hax] <;> rfl) (Nat.le_of_ble_eq_true rfl) ⟨Nat.le_of_ble_eq_true rfl, Nat.le_of_ble_eq_true rfl⟩ ⟨by show cells + 0 ≤ 600000; omega, by show slots + 0 ≤ 7302250; omega⟩ (c_X9_seal l Y _ ad sh g u hR hI (xs (nI (j + 1)).toNatClampNeg) (xs (nI (j + 2)).toNatClampNeg)) (fun v9 ad9 sh9 g9 H locs hp hW => ?_)
  obtain ⟨rfl, hR9, hf9⟩ := hp
  obtain ⟨ad1, rfl⟩ : ∃ z : Nat → Nat, z = ad9 := ⟨_, rfl⟩
  obtain ⟨sh1, rfl⟩ : ∃ z : Nat → Option zw_Sh, z = sh9 := ⟨_, rfl⟩
  obtain ⟨g1, rfl⟩ : ∃ z : zm_T, z = g9 := ⟨_, rfl⟩
  have hM1 : zm_S sh1 := zm_Sc hM (fun r hr => (hf9.2 r hr).1)
  have ham1 : ad1 0 = am := (hf9.1 0 (by omega)).trans ham
  have hax1 : ad1 100 = ax := (hf9.1 100 (by omega)).trans hax
  have hg1 : g1 = zm_mix u g1 := by
    funext r
    by_cases h9 : r < 100
    · rw [zm_mixl h9, (hf9.2 r h9).2, hgm, zm_mixl h9]
    · rw [zm_mixr (by omega)]
  have hW : zw_St Y s.heap.size ad1 sh1 (zm_mix u g1) s H locs := by rw [← hg1]; exact hW
  refine lv_aload_n X.1 X.2.1 dL_law_774 rfl (lv_at hl 1 rfl) ?_
  refine lv_aload_n X.1 X.2.1 dL_law_775 rfl (lv_at hl 3 rfl) ?_
  refine lv_iload_n X.1 X.2.1 dL_law_776 rfl (lv_at hl 0 rfl) ?_
  refine lv_iconst (v := 1) X.1 X.2.1 dL_law_777 (by decide) ?_
  refine lv_iadd X.1 X.2.1 dL_law_778 ?_
  refine zr_eqi (v := nI (j + 1)) (nI_add j 1) ?_
  refine va_sld X.1 X.2.1 hX hbl hbA hW.2.1 (zi_vp (by rw [nI_toInt (by omega)]; omega)) dL_law_779 ?_
  refine lv_aload_n X.1 X.2.1 dL_law_780 rfl (lv_at hl 3 rfl) ?_
  refine lv_iload_n X.1 X.2.1 dL_law_781 rfl (lv_at hl 0 rfl) ?_
  refine lv_iconst (v := 2) X.1 X.2.1 dL_law_782 (by decide) ?_
  refine lv_iadd X.1 X.2.1 dL_law_783 ?_
  refine zr_eqi (v := nI (j + 2)) (nI_add j 2) ?_
  refine va_sld X.1 X.2.1 hX hbl hbA hW.2.1 (zi_vp (by rw [nI_toInt (by omega)]; omega)) dL_law_784 ?_
  refine zr_callV (As := [.int (xs (nI (j + 1)).toNatClampNeg), .int (xs (nI (j + 2)).toNatClampNeg)]) (rest := [.int ((sp_seal (xs (nI (j + 1)).toNatClampNeg) (xs (nI (j + 2)).toNatClampNeg) u).1)]) X hW hl.1 md_X10_seal ms_L_104 dL_law_785 (zm_s0 hM1) rfl rfl rfl (by rw [ham1] <;> rfl) (Nat.le_of_ble_eq_true rfl) ⟨Nat.le_of_ble_eq_true rfl, Nat.le_of_ble_eq_true rfl⟩ ⟨by show cells + 0 + 0 ≤ 600000; omega, by show slots + 0 + 0 ≤ 7302250; omega⟩ (c_X10_seal l Y _ ad1 sh1 u g1 hM1 (xs (nI (j + 1)).toNatClampNeg) (xs (nI (j + 2)).toNatClampNeg) hI) (fun v9 ad9 sh9 g9 H locs hp hW => ?_)
  obtain ⟨rfl, rfl, rfl, rfl⟩ := hp
  refine zr_icmp_eq (tgt := 826) X dL_law_788 (by decide) rfl rfl (fun _ => ?_) (fun c9 => absurd rfl c9)
  refine W.widen (k := cells + 2) (n := slots + 11) (by omega) (by omega) ?_
  exact kk _ _ _ (sp_seal (xs (nI (j + 1)).toNatClampNeg) (xs (nI (j + 2)).toNatClampNeg) u).2 _ _ ⟨hW, hM1, zc_Rc hR9 (fun r hr => ⟨rfl, zm_mixr hr⟩), (zm_mixm (u' := u)).symm, (zI_seal (xs (nI (j + 1)).toNatClampNeg) (xs (nI (j + 2)).toNatClampNeg) hI), hax1, ham1⟩

set_option maxHeartbeats 4000000 in
set_option maxRecDepth 100000 in
/-- look -/
theorem lw_c19 {p : Program} {e : Env} {s : State} {m : MethodId} {below : List Frame} {meth : Method} {c : Code} {Q : State → Prop} (l : Launch) (Y : zw_Y) {b L : Nat} {xs : Nat → Int32} (hL : L ≤ 3073) (hbl : b < s.heap.size) (hX : va_X b L xs s s.heap) (X : zw_X p m meth c cL_law 4 (some .boolean) s #[Value.ref b] RL Y) (ax am j : Nat) (hj : j + 6 ≤ L) (ad : Nat → Nat) (sh : Nat → Option zw_Sh) (g u : zm_T) (H : Heap) (locs : List Loc) (cells slots : Nat) (ls : Array Slot) (h9 : lw_I Y s ax am ad sh g u H locs) (hcells : cells + 2 ≤ 600000) (hslots : slots + 11 ≤ 7302250) (hl : lv_has ls 4 [(3, .int (nI j)), (2, .ref am), (1, .ref ax), (0, .ref b)])
    (kk : ∀ (ad' : Nat → Nat) (sh' : Nat → Option zw_Sh) (g' u' : zm_T) (H' : Heap) (locs' : List Loc), lw_I Y s ax am ad' sh' g' u' H' locs' → W p l e room_1 s m #[Value.ref b] below meth c H' locs' (cells + 2) (slots + 11) Q (F0 m 826 ls [])) : W p l e room_1 s m #[Value.ref b] below meth c H locs cells slots Q (F0 m 793 ls []) := by
  obtain ⟨hW, hM, hR, hgm, hI, hax, ham⟩ := h9
  have hbA : ¬ (fun q : Nat => s.heap.size ≤ q) b := Nat.not_le.mpr hbl
  refine lv_aload_n X.1 X.2.1 dL_law_793 rfl (lv_at hl 2 rfl) ?_
  refine lv_aload_n X.1 X.2.1 dL_law_794 rfl (lv_at hl 3 rfl) ?_
  refine lv_iload_n X.1 X.2.1 dL_law_795 rfl (lv_at hl 0 rfl) ?_
  refine lv_iconst (v := 1) X.1 X.2.1 dL_law_796 (by decide) ?_
  refine lv_iadd X.1 X.2.1 dL_law_797 ?_
  refine zr_eqi (v := nI (j + 1)) (nI_add j 1) ?_
  refine va_sld X.1 X.2.1 hX hbl hbA hW.2.1 (zi_vp (by rw [nI_toInt (by omega)]; omega)) dL_law_798 ?_
  refine lv_aload_n X.1 X.2.1 dL_law_799 rfl (lv_at hl 3 rfl) ?_
  refine lv_iload_n X.1 X.2.1 dL_law_800 rfl (lv_at hl 0 rfl) ?_
  refine lv_iconst (v := 2) X.1 X.2.1 dL_law_801 (by decide) ?_
  refine lv_iadd X.1 X.2.1 dL_law_802 ?_
  refine zr_eqi (v := nI (j + 2)) (nI_add j 2) ?_
  refine va_sld X.1 X.2.1 hX hbl hbA hW.2.1 (zi_vp (by rw [nI_toInt (by omega)]; omega)) dL_law_803 ?_
  refine zr_callV (As := [.int (xs (nI (j + 1)).toNatClampNeg), .int (xs (nI (j + 2)).toNatClampNeg)]) (rest := []) X hW hl.1 md_X9_look ms_L_105 dL_law_804 (zc_s100 hR.1) rfl rfl rfl (by rw [hax] <;> rfl) (Nat.le_of_ble_eq_true rfl) ⟨Nat.le_of_ble_eq_true rfl, Nat.le_of_ble_eq_true rfl⟩ ⟨by show cells + 0 ≤ 600000; omega, by show slots + 0 ≤ 7302250; omega⟩ (c_X9_look l Y _ ad sh g u hR hI (xs (nI (j + 1)).toNatClampNeg) (xs (nI (j + 2)).toNatClampNeg)) (fun v9 ad9 sh9 g9 H locs hp hW => ?_)
  obtain ⟨rfl, hR9, hf9⟩ := hp
  obtain ⟨ad1, rfl⟩ : ∃ z : Nat → Nat, z = ad9 := ⟨_, rfl⟩
  obtain ⟨sh1, rfl⟩ : ∃ z : Nat → Option zw_Sh, z = sh9 := ⟨_, rfl⟩
  obtain ⟨g1, rfl⟩ : ∃ z : zm_T, z = g9 := ⟨_, rfl⟩
  have hM1 : zm_S sh1 := zm_Sc hM (fun r hr => (hf9.2 r hr).1)
  have ham1 : ad1 0 = am := (hf9.1 0 (by omega)).trans ham
  have hax1 : ad1 100 = ax := (hf9.1 100 (by omega)).trans hax
  have hg1 : g1 = zm_mix u g1 := by
    funext r
    by_cases h9 : r < 100
    · rw [zm_mixl h9, (hf9.2 r h9).2, hgm, zm_mixl h9]
    · rw [zm_mixr (by omega)]
  have hW : zw_St Y s.heap.size ad1 sh1 (zm_mix u g1) s H locs := by rw [← hg1]; exact hW
  refine lv_aload_n X.1 X.2.1 dL_law_807 rfl (lv_at hl 1 rfl) ?_
  refine lv_aload_n X.1 X.2.1 dL_law_808 rfl (lv_at hl 3 rfl) ?_
  refine lv_iload_n X.1 X.2.1 dL_law_809 rfl (lv_at hl 0 rfl) ?_
  refine lv_iconst (v := 1) X.1 X.2.1 dL_law_810 (by decide) ?_
  refine lv_iadd X.1 X.2.1 dL_law_811 ?_
  refine zr_eqi (v := nI (j + 1)) (nI_add j 1) ?_
  refine va_sld X.1 X.2.1 hX hbl hbA hW.2.1 (zi_vp (by rw [nI_toInt (by omega)]; omega)) dL_law_812 ?_
  refine lv_aload_n X.1 X.2.1 dL_law_813 rfl (lv_at hl 3 rfl) ?_
  refine lv_iload_n X.1 X.2.1 dL_law_814 rfl (lv_at hl 0 rfl) ?_
  refine lv_iconst (v := 2) X.1 X.2.1 dL_law_815 (by decide) ?_
  refine lv_iadd X.1 X.2.1 dL_law_816 ?_
  refine zr_eqi (v := nI (j + 2)) (nI_add j 2) ?_
  refine va_sld X.1 X.2.1 hX hbl hbA hW.2.1 (zi_vp (by rw [nI_toInt (by omega)]; omega)) dL_law_817 ?_
  refine zr_callV (As := [.int (xs (nI (j + 1)).toNatClampNeg), .int (xs (nI (j + 2)).toNatClampNeg)]) (rest := [.int ((sp_look (xs (nI (j + 1)).toNatClampNeg) (xs (nI (j + 2)).toNatClampNeg) u).1)]) X hW hl.1 md_X10_look ms_L_108 dL_law_818 (zm_s0 hM1) rfl rfl rfl (by rw [ham1] <;> rfl) (Nat.le_of_ble_eq_true rfl) ⟨Nat.le_of_ble_eq_true rfl, Nat.le_of_ble_eq_true rfl⟩ ⟨by show cells + 0 + 0 ≤ 600000; omega, by show slots + 0 + 0 ≤ 7302250; omega⟩ (c_X10_look l Y _ ad1 sh1 u g1 hM1 (xs (nI (j + 1)).toNatClampNeg) (xs (nI (j + 2)).toNatClampNeg) hI) (fun v9 ad9 sh9 g9 H locs hp hW => ?_)
  obtain ⟨rfl, rfl, rfl, rfl⟩ := hp
  refine zr_icmp_eq (tgt := 826) X dL_law_821 (by decide) rfl rfl (fun _ => ?_) (fun c9 => absurd rfl c9)
  refine W.widen (k := cells + 2) (n := slots + 11) (by omega) (by omega) ?_
  exact kk _ _ _ (sp_look (xs (nI (j + 1)).toNatClampNeg) (xs (nI (j + 2)).toNatClampNeg) u).2 _ _ ⟨hW, hM1, zc_Rc hR9 (fun r hr => ⟨rfl, zm_mixr hr⟩), (zm_mixm (u' := u)).symm, hI, hax1, ham1⟩
