theorem zc_l101 {i : Nat} (h : i < 6) : zc_lm 101 i = some (1, i) := by
  simp [zc_lm, h]
theorem zc_l102 {i : Nat} (h : i < 6) : zc_lm 102 i = some (3, i) := by
  simp [zc_lm, h]
theorem zc_l108 {i : Nat} (h : i < 200) : zc_lm 108 i = some (4, i) := by
  simp [zc_lm, h]
theorem zc_l109 {i : Nat} (h : i < 6) : zc_lm 109 i = some (5, i) := by
  simp [zc_lm, h]
theorem zc_l110 {i : Nat} (h : i < 6) : zc_lm 110 i = some (6, i) := by
  simp [zc_lm, h]
theorem zc_l112 {i : Nat} (h : i < 6) : zc_lm 112 i = some (5, (6 + i)) := by
  simp [zc_lm, h]
theorem zc_l113 {i : Nat} (h : i < 6) : zc_lm 113 i = some (6, (6 + i)) := by
  simp [zc_lm, h]
theorem zc_l119 {i : Nat} (h : i < 3) : zc_lm 119 i = some (26, i) := by
  simp [zc_lm, h]
theorem zc_l121 {i : Nat} (h : i < 3) : zc_lm 121 i = some (7, (0 + i)) := by
  simp [zc_lm, h]
theorem zc_l122 {i : Nat} (h : i < 3) : zc_lm 122 i = some (7, (3 + i)) := by
  simp [zc_lm, h]
theorem zc_l123 {i : Nat} (h : i < 3) : zc_lm 123 i = some (7, (6 + i)) := by
  simp [zc_lm, h]
theorem zc_l124 {i : Nat} (h : i < 3) : zc_lm 124 i = some (7, (9 + i)) := by
  simp [zc_lm, h]
theorem zc_l125 {i : Nat} (h : i < 3) : zc_lm 125 i = some (7, (12 + i)) := by
  simp [zc_lm, h]
theorem zc_l126 {i : Nat} (h : i < 3) : zc_lm 126 i = some (7, (15 + i)) := by
  simp [zc_lm, h]
theorem zc_l127 {i : Nat} (h : i < 3) : zc_lm 127 i = some (7, (18 + i)) := by
  simp [zc_lm, h]
theorem zc_l128 {i : Nat} (h : i < 3) : zc_lm 128 i = some (7, (21 + i)) := by
  simp [zc_lm, h]
theorem zc_l129 {i : Nat} (h : i < 3) : zc_lm 129 i = some (7, (24 + i)) := by
  simp [zc_lm, h]
theorem zc_l130 {i : Nat} (h : i < 3) : zc_lm 130 i = some (7, (27 + i)) := by
  simp [zc_lm, h]
theorem zc_l131 {i : Nat} (h : i < 3) : zc_lm 131 i = some (7, (30 + i)) := by
  simp [zc_lm, h]
theorem zc_l132 {i : Nat} (h : i < 3) : zc_lm 132 i = some (7, (33 + i)) := by
  simp [zc_lm, h]
theorem zc_l133 {i : Nat} (h : i < 2) : zc_lm 133 i = some (23, (4 + i)) := by
  simp [zc_lm, h]
theorem zc_l135 {i : Nat} (h : i < 2) : zc_lm 135 i = some (23, (6 + i)) := by
  simp [zc_lm, h]
theorem zc_l137 {i : Nat} (h : i < 2) : zc_lm 137 i = some (23, (8 + i)) := by
  simp [zc_lm, h]
theorem zc_l139 {i : Nat} (h : i < 2) : zc_lm 139 i = some (23, (10 + i)) := by
  simp [zc_lm, h]
theorem zi_nl {x : Int32} {n : Nat} (h : x.toInt < n) (hn : 0 < n) : zn x < n := by rw [zi_n]; omega

set_option maxHeartbeats 4000000 in
set_option maxRecDepth 100000 in
theorem c_X9_isPrincipal (l : Launch) (Y : zw_Y) (N0 : Nat) (ad : Nat → Nat) (sh : Nat → Option zw_Sh) (g : zm_T) (a : Int32) : zw_Met l Y N0 yX9_isPrincipal cX9_isPrincipal 1 (some .boolean) 0 0 0 0 ad sh g [.int a] (zp_B ad sh g (zi_in a 0 5)) := by
  refine zw_meth (by decide) (Nat.le_of_ble_eq_true rfl) ?_
  intro p e s m below meth c ls X hnm hl hW
  have hl : lv_has ls 1 [(0, .int a)] := hl
  refine lv_iload_n X.1 X.2.1 dX9_isPrincipal_0 rfl (lv_at hl 0 rfl) ?_
  refine zr_if_lt (a := (a).toInt) (tgt := 14) X dX9_isPrincipal_1 (by decide) rfl (fun c_1 => ?_) (fun c_1 => ?_)
  · refine lv_iconst (v := 0) X.1 X.2.1 dX9_isPrincipal_14 (by decide) ?_
    exact zr_zret X hW dX9_isPrincipal_15 (Nat.le_refl _) (Nat.le_refl _) rfl ⟨rfl, rfl, rfl, Or.inr ⟨by omega, rfl⟩⟩
  · refine lv_iload_n X.1 X.2.1 dX9_isPrincipal_4 rfl (lv_at hl 0 rfl) ?_
    refine lv_bipush (v := 6) X.1 X.2.1 dX9_isPrincipal_5 (by decide) ?_
    refine zr_icmp_ge (a := (a).toInt) (b := 6) (tgt := 14) X dX9_isPrincipal_7 (by decide) rfl (by decide) (fun c_2 => ?_) (fun c_2 => ?_)
    · refine lv_iconst (v := 0) X.1 X.2.1 dX9_isPrincipal_14 (by decide) ?_
      exact zr_zret X hW dX9_isPrincipal_15 (Nat.le_refl _) (Nat.le_refl _) rfl ⟨rfl, rfl, rfl, Or.inr ⟨by omega, rfl⟩⟩
    · refine lv_iconst (v := 1) X.1 X.2.1 dX9_isPrincipal_10 (by decide) ?_
      refine lv_goto (tgt := 15) X.1 X.2.1 dX9_isPrincipal_11 (by decide) ?_
      exact zr_zret X hW dX9_isPrincipal_15 (Nat.le_refl _) (Nat.le_refl _) rfl ⟨rfl, rfl, rfl, Or.inl ⟨by omega, rfl⟩⟩

set_option maxHeartbeats 4000000 in
set_option maxRecDepth 100000 in
theorem c_X9_isUser (l : Launch) (Y : zw_Y) (N0 : Nat) (ad : Nat → Nat) (sh : Nat → Option zw_Sh) (g : zm_T) (a : Int32) : zw_Met l Y N0 yX9_isUser cX9_isUser 1 (some .boolean) 0 0 0 0 ad sh g [.int a] (zp_B ad sh g (zi_in a 2 5)) := by
  refine zw_meth (by decide) (Nat.le_of_ble_eq_true rfl) ?_
  intro p e s m below meth c ls X hnm hl hW
  have hl : lv_has ls 1 [(0, .int a)] := hl
  refine lv_iload_n X.1 X.2.1 dX9_isUser_0 rfl (lv_at hl 0 rfl) ?_
  refine lv_iconst (v := 2) X.1 X.2.1 dX9_isUser_1 (by decide) ?_
  refine zr_icmp_lt (a := (a).toInt) (b := 2) (tgt := 15) X dX9_isUser_2 (by decide) rfl (by decide) (fun c_1 => ?_) (fun c_1 => ?_)
  · refine lv_iconst (v := 0) X.1 X.2.1 dX9_isUser_15 (by decide) ?_
    exact zr_zret X hW dX9_isUser_16 (Nat.le_refl _) (Nat.le_refl _) rfl ⟨rfl, rfl, rfl, Or.inr ⟨by omega, rfl⟩⟩
  · refine lv_iload_n X.1 X.2.1 dX9_isUser_5 rfl (lv_at hl 0 rfl) ?_
    refine lv_bipush (v := 6) X.1 X.2.1 dX9_isUser_6 (by decide) ?_
    refine zr_icmp_ge (a := (a).toInt) (b := 6) (tgt := 15) X dX9_isUser_8 (by decide) rfl (by decide) (fun c_2 => ?_) (fun c_2 => ?_)
    · refine lv_iconst (v := 0) X.1 X.2.1 dX9_isUser_15 (by decide) ?_
      exact zr_zret X hW dX9_isUser_16 (Nat.le_refl _) (Nat.le_refl _) rfl ⟨rfl, rfl, rfl, Or.inr ⟨by omega, rfl⟩⟩
    · refine lv_iconst (v := 1) X.1 X.2.1 dX9_isUser_11 (by decide) ?_
      refine lv_goto (tgt := 16) X.1 X.2.1 dX9_isUser_12 (by decide) ?_
      exact zr_zret X hW dX9_isUser_16 (Nat.le_refl _) (Nat.le_refl _) rfl ⟨rfl, rfl, rfl, Or.inl ⟨by omega, rfl⟩⟩

set_option maxHeartbeats 4000000 in
set_option maxRecDepth 100000 in
theorem c_X9_isTarget (l : Launch) (Y : zw_Y) (N0 : Nat) (ad : Nat → Nat) (sh : Nat → Option zw_Sh) (g : zm_T) (a : Int32) : zw_Met l Y N0 yX9_isTarget cX9_isTarget 1 (some .boolean) 0 0 0 0 ad sh g [.int a] (zp_B ad sh g (zi_in a 0 1)) := by
  refine zw_meth (by decide) (Nat.le_of_ble_eq_true rfl) ?_
  intro p e s m below meth c ls X hnm hl hW
  have hl : lv_has ls 1 [(0, .int a)] := hl
  refine lv_iload_n X.1 X.2.1 dX9_isTarget_0 rfl (lv_at hl 0 rfl) ?_
  refine zr_if_lt (a := (a).toInt) (tgt := 13) X dX9_isTarget_1 (by decide) rfl (fun c_1 => ?_) (fun c_1 => ?_)
  · refine lv_iconst (v := 0) X.1 X.2.1 dX9_isTarget_13 (by decide) ?_
    exact zr_zret X hW dX9_isTarget_14 (Nat.le_refl _) (Nat.le_refl _) rfl ⟨rfl, rfl, rfl, Or.inr ⟨by omega, rfl⟩⟩
  · refine lv_iload_n X.1 X.2.1 dX9_isTarget_4 rfl (lv_at hl 0 rfl) ?_
    refine lv_iconst (v := 2) X.1 X.2.1 dX9_isTarget_5 (by decide) ?_
    refine zr_icmp_ge (a := (a).toInt) (b := 2) (tgt := 13) X dX9_isTarget_6 (by decide) rfl (by decide) (fun c_2 => ?_) (fun c_2 => ?_)
    · refine lv_iconst (v := 0) X.1 X.2.1 dX9_isTarget_13 (by decide) ?_
      exact zr_zret X hW dX9_isTarget_14 (Nat.le_refl _) (Nat.le_refl _) rfl ⟨rfl, rfl, rfl, Or.inr ⟨by omega, rfl⟩⟩
    · refine lv_iconst (v := 1) X.1 X.2.1 dX9_isTarget_9 (by decide) ?_
      refine lv_goto (tgt := 14) X.1 X.2.1 dX9_isTarget_10 (by decide) ?_
      exact zr_zret X hW dX9_isTarget_14 (Nat.le_refl _) (Nat.le_refl _) rfl ⟨rfl, rfl, rfl, Or.inl ⟨by omega, rfl⟩⟩

set_option maxHeartbeats 4000000 in
set_option maxRecDepth 100000 in
theorem c_X9_isFile (l : Launch) (Y : zw_Y) (N0 : Nat) (ad : Nat → Nat) (sh : Nat → Option zw_Sh) (g : zm_T) (a : Int32) : zw_Met l Y N0 yX9_isFile cX9_isFile 1 (some .boolean) 0 0 0 0 ad sh g [.int a] (zp_B ad sh g (zi_in a 0 2)) := by
  refine zw_meth (by decide) (Nat.le_of_ble_eq_true rfl) ?_
  intro p e s m below meth c ls X hnm hl hW
  have hl : lv_has ls 1 [(0, .int a)] := hl
  refine lv_iload_n X.1 X.2.1 dX9_isFile_0 rfl (lv_at hl 0 rfl) ?_
  refine zr_if_lt (a := (a).toInt) (tgt := 13) X dX9_isFile_1 (by decide) rfl (fun c_1 => ?_) (fun c_1 => ?_)
  · refine lv_iconst (v := 0) X.1 X.2.1 dX9_isFile_13 (by decide) ?_
    exact zr_zret X hW dX9_isFile_14 (Nat.le_refl _) (Nat.le_refl _) rfl ⟨rfl, rfl, rfl, Or.inr ⟨by omega, rfl⟩⟩
  · refine lv_iload_n X.1 X.2.1 dX9_isFile_4 rfl (lv_at hl 0 rfl) ?_
    refine lv_iconst (v := 3) X.1 X.2.1 dX9_isFile_5 (by decide) ?_
    refine zr_icmp_ge (a := (a).toInt) (b := 3) (tgt := 13) X dX9_isFile_6 (by decide) rfl (by decide) (fun c_2 => ?_) (fun c_2 => ?_)
    · refine lv_iconst (v := 0) X.1 X.2.1 dX9_isFile_13 (by decide) ?_
      exact zr_zret X hW dX9_isFile_14 (Nat.le_refl _) (Nat.le_refl _) rfl ⟨rfl, rfl, rfl, Or.inr ⟨by omega, rfl⟩⟩
    · refine lv_iconst (v := 1) X.1 X.2.1 dX9_isFile_9 (by decide) ?_
      refine lv_goto (tgt := 14) X.1 X.2.1 dX9_isFile_10 (by decide) ?_
      exact zr_zret X hW dX9_isFile_14 (Nat.le_refl _) (Nat.le_refl _) rfl ⟨rfl, rfl, rfl, Or.inl ⟨by omega, rfl⟩⟩

def zs_mx (x y : Int32) : Int32 := if x.toInt < y.toInt then y else x
def zs_mi (x y : Int32) : Int32 := if y.toInt < x.toInt then y else x
def zs_ab (x : Int64) : Int64 := if x.toInt < 0 then -x else x

theorem zs_mi_eq (x y : Int32) : (if y < x then y else x) = zs_mi x y := by
  unfold zs_mi
  by_cases h : y < x
  · rw [if_pos h, if_pos (Int32.lt_iff_toInt_lt.mp h)]
  · rw [if_neg h, if_neg (fun q => h (Int32.lt_iff_toInt_lt.mpr q))]
theorem zs_mx_eq (x y : Int32) : (if x < y then y else x) = zs_mx x y := by
  unfold zs_mx
  by_cases h : x < y
  · rw [if_pos h, if_pos (Int32.lt_iff_toInt_lt.mp h)]
  · rw [if_neg h, if_neg (fun q => h (Int32.lt_iff_toInt_lt.mpr q))]
theorem zs_ab_eq (x : Int64) : (if 0 < x then x else -x) = zs_ab x := by
  unfold zs_ab
  have h0 : (0 : Int64).toInt = 0 := rfl
  by_cases h : 0 < x
  · have h1 := Int64.lt_iff_toInt_lt.mp h
    rw [if_pos h, if_neg (by rw [h0] at h1; omega)]
  · have h1 : ¬ (0 : Int64).toInt < x.toInt := fun q => h (Int64.lt_iff_toInt_lt.mpr q)
    rw [h0] at h1
    rw [if_neg h]
    by_cases h2 : x.toInt < 0
    · rw [if_pos h2]
    · rw [if_neg h2]
      have h3 : x = 0 := Int64.toInt_inj.mp (by rw [h0]; omega)
      subst h3
      rfl
section ZJ
variable {p : Program} {l : Launch} {e : Env} {R : Room} {s : State} {m : MethodId} {args : Array Value} {below : List Frame} {meth : Method} {c : Code} {H : Heap} {locs : List Loc} {cells slots : Nat} {Q : State → Prop}
variable {cc : ByteArray} {pc nL : Nat} {ret : Option FieldType} {ls : Array Slot} {rest : List Value} {Y : zw_Y} {own : String}
theorem zr_min (X : zw_X p m meth c cc nL ret s args own Y) (hl : ls.size = nL) {index : Nat} (hw : Cond.methodLink own index Lib.Math.min.name ∈ zt_good) (hdg : decode cc pc = .ok (.invokestatic index, 3)) (hfr : 1 ≤ R.frames) (hlo : 21 ≤ R.locals) (hc : cells ≤ R.cells) (hs : slots ≤ R.slots) (hrm : (rest.map fun v => v.category).sum ≤ 8) {x y : Int32}
    (kk : W p l e R s m args below meth c H locs cells slots Q (F0 m (pc + 3) ls (.int (zs_mi x y) :: rest))) : W p l e R s m args below meth c H locs cells slots Q (F0 m pc ls (.int y :: .int x :: rest)) := by
  obtain ⟨hx, hb, hml, hown, hts, hK, -, -⟩ := X
  exact va_mmin hx hb (hml.trans hl.symm) hown (hts _ hw) (hts _ (zt_in (zt_t1 72 rfl) rfl)) (hts _ (zt_in (zt_t1 4 rfl) rfl)) (hts _ (zt_in (zt_t1 73 rfl) rfl)) hfr (by omega) hc hs hdg (by rw [zs_mi_eq]; exact kk)
theorem zr_max (X : zw_X p m meth c cc nL ret s args own Y) (hl : ls.size = nL) {index : Nat} (hw : Cond.methodLink own index Lib.Math.max.name ∈ zt_good) (hdg : decode cc pc = .ok (.invokestatic index, 3)) (hfr : 1 ≤ R.frames) (hlo : 21 ≤ R.locals) (hc : cells ≤ R.cells) (hs : slots ≤ R.slots) (hrm : (rest.map fun v => v.category).sum ≤ 8) {x y : Int32}
    (kk : W p l e R s m args below meth c H locs cells slots Q (F0 m (pc + 3) ls (.int (zs_mx x y) :: rest))) : W p l e R s m args below meth c H locs cells slots Q (F0 m pc ls (.int y :: .int x :: rest)) := by
  obtain ⟨hx, hb, hml, hown, hts, hK, -, -⟩ := X
  exact va_mmax hx hb (hml.trans hl.symm) hown (hts _ hw) (hts _ (zt_in (zt_t1 75 rfl) rfl)) (hts _ (zt_in (zt_t1 4 rfl) rfl)) (hts _ (zt_in (zt_t1 76 rfl) rfl)) hfr (by omega) hc hs hdg (by rw [zs_mx_eq]; exact kk)
theorem zr_abs (X : zw_X p m meth c cc nL ret s args own Y) (hl : ls.size = nL) {index : Nat} (hw : Cond.methodLink own index Lib.MathLoose.abs_long.x ∈ zt_good) (hdg : decode cc pc = .ok (.invokestatic index, 3)) (hfr : 1 ≤ R.frames) (hlo : 21 ≤ R.locals) (hc : cells ≤ R.cells) (hs : slots ≤ R.slots) (hrm : (rest.map fun v => v.category).sum ≤ 8) {x : Int64}
    (kk : W p l e R s m args below meth c H locs cells slots Q (F0 m (pc + 3) ls (.long (zs_ab x) :: rest))) : W p l e R s m args below meth c H locs cells slots Q (F0 m pc ls (.long x :: rest)) := by
  obtain ⟨hx, hb, hml, hown, hts, hK, -, -⟩ := X
  exact va_mabs_long hx hb (hml.trans hl.symm) hown (hts _ hw) (hts _ (zt_in (zt_t2 127 rfl) rfl)) (hts _ (zt_in (zt_t1 4 rfl) rfl)) (hts _ (zt_in (zt_t2 128 rfl) rfl)) hfr (by omega) hc hs hdg (by rw [zs_ab_eq]; exact kk)
end ZJ
