/-! comparisons, told in whole numbers -/
abbrev zi_in (x : Int32) (lo hi : Int) : Prop := lo ≤ x.toInt ∧ x.toInt ≤ hi
theorem zi_0 : (0 : Int32).toInt = 0 := by decide
theorem zi_vp {x : Int32} {n : Nat} (h : 0 ≤ x.toInt ∧ x.toInt < n) : vp_in x n := vp_in_iff.mpr h
section ZQ
variable {p : Program} {l : Launch} {e : Env} {R : Room} {s : State} {m : MethodId} {args : Array Value} {below : List Frame} {meth : Method} {c : Code} {H : Heap} {locs : List Loc} {cells slots : Nat} {Q : State → Prop}
variable {cc : ByteArray} {pc nL : Nat} {ret : Option FieldType} {ls : Array Slot} {rest st0 : List Value} {Y : zw_Y} {N0 : Nat} {ad : Nat → Nat} {sh : Nat → Option zw_Sh} {g : Nat → Nat → Int32} {own : String}
theorem zr_if_eq (X : zw_X p m meth c cc nL ret s args own Y) {x : Int32} {a : Int} {off : Int} {tgt : Nat} (hdg : decode cc pc = .ok (.ifCond .eq off, 3)) (ht : (pc : Int) + off = (tgt : Int)) (ha : x.toInt = a)
    (kt : a = 0 → W p l e R s m args below meth c H locs cells slots Q (F0 m tgt ls rest)) (kf : ¬ a = 0 → W p l e R s m args below meth c H locs cells slots Q (F0 m (pc + 3) ls rest)) : W p l e R s m args below meth c H locs cells slots Q (F0 m pc ls (.int x :: rest)) := by
  subst ha
  exact lv_if_eq X.1 X.2.1 hdg ht (fun h => kt ((congrArg Int32.toInt h).trans zi_0)) (fun h => kf (fun q => h (Int32.toInt_inj.mp (q.trans zi_0.symm))))
theorem zr_icmp_eq (X : zw_X p m meth c cc nL ret s args own Y) {x y : Int32} {a b : Int} {off : Int} {tgt : Nat} (hdg : decode cc pc = .ok (.if_icmp .eq off, 3)) (ht : (pc : Int) + off = (tgt : Int)) (ha : x.toInt = a) (hb9 : y.toInt = b)
    (kt : a = b → W p l e R s m args below meth c H locs cells slots Q (F0 m tgt ls rest)) (kf : ¬ a = b → W p l e R s m args below meth c H locs cells slots Q (F0 m (pc + 3) ls rest)) : W p l e R s m args below meth c H locs cells slots Q (F0 m pc ls (.int y :: .int x :: rest)) := by
  subst ha
  subst hb9
  exact lv_icmp_eq X.1 X.2.1 hdg ht (fun h => kt (Int32.toInt_inj.mpr h)) (fun h => kf (fun q => h (Int32.toInt_inj.mp q)))
theorem zr_if_ne (X : zw_X p m meth c cc nL ret s args own Y) {x : Int32} {a : Int} {off : Int} {tgt : Nat} (hdg : decode cc pc = .ok (.ifCond .ne off, 3)) (ht : (pc : Int) + off = (tgt : Int)) (ha : x.toInt = a)
    (kt : ¬ a = 0 → W p l e R s m args below meth c H locs cells slots Q (F0 m tgt ls rest)) (kf : a = 0 → W p l e R s m args below meth c H locs cells slots Q (F0 m (pc + 3) ls rest)) : W p l e R s m args below meth c H locs cells slots Q (F0 m pc ls (.int x :: rest)) := by
  subst ha
  exact lv_if_ne X.1 X.2.1 hdg ht (fun h => kt (fun q => h (Int32.toInt_inj.mp (q.trans zi_0.symm)))) (fun h => kf ((congrArg Int32.toInt h).trans zi_0))
theorem zr_icmp_ne (X : zw_X p m meth c cc nL ret s args own Y) {x y : Int32} {a b : Int} {off : Int} {tgt : Nat} (hdg : decode cc pc = .ok (.if_icmp .ne off, 3)) (ht : (pc : Int) + off = (tgt : Int)) (ha : x.toInt = a) (hb9 : y.toInt = b)
    (kt : ¬ a = b → W p l e R s m args below meth c H locs cells slots Q (F0 m tgt ls rest)) (kf : a = b → W p l e R s m args below meth c H locs cells slots Q (F0 m (pc + 3) ls rest)) : W p l e R s m args below meth c H locs cells slots Q (F0 m pc ls (.int y :: .int x :: rest)) := by
  subst ha
  subst hb9
  exact lv_icmp_ne X.1 X.2.1 hdg ht (fun h => kt (fun q => h (Int32.toInt_inj.mp q))) (fun h => kf (Int32.toInt_inj.mpr h))
theorem zr_if_lt (X : zw_X p m meth c cc nL ret s args own Y) {x : Int32} {a : Int} {off : Int} {tgt : Nat} (hdg : decode cc pc = .ok (.ifCond .lt off, 3)) (ht : (pc : Int) + off = (tgt : Int)) (ha : x.toInt = a)
    (kt : a < 0 → W p l e R s m args below meth c H locs cells slots Q (F0 m tgt ls rest)) (kf : ¬ a < 0 → W p l e R s m args below meth c H locs cells slots Q (F0 m (pc + 3) ls rest)) : W p l e R s m args below meth c H locs cells slots Q (F0 m pc ls (.int x :: rest)) := by
  subst ha
  exact lv_if_lt X.1 X.2.1 hdg ht (fun h => kt (by have q := Int32.lt_iff_toInt_lt.mp h; rw [zi_0] at q; exact q)) (fun h => kf (fun q => h (Int32.lt_iff_toInt_lt.mpr (by rw [zi_0]; exact q))))
theorem zr_icmp_lt (X : zw_X p m meth c cc nL ret s args own Y) {x y : Int32} {a b : Int} {off : Int} {tgt : Nat} (hdg : decode cc pc = .ok (.if_icmp .lt off, 3)) (ht : (pc : Int) + off = (tgt : Int)) (ha : x.toInt = a) (hb9 : y.toInt = b)
    (kt : a < b → W p l e R s m args below meth c H locs cells slots Q (F0 m tgt ls rest)) (kf : ¬ a < b → W p l e R s m args below meth c H locs cells slots Q (F0 m (pc + 3) ls rest)) : W p l e R s m args below meth c H locs cells slots Q (F0 m pc ls (.int y :: .int x :: rest)) := by
  subst ha
  subst hb9
  exact lv_icmp_lt X.1 X.2.1 hdg ht (fun h => kt (Int32.lt_iff_toInt_lt.mp h)) (fun h => kf (fun q => h (Int32.lt_iff_toInt_lt.mpr q)))
theorem zr_if_ge (X : zw_X p m meth c cc nL ret s args own Y) {x : Int32} {a : Int} {off : Int} {tgt : Nat} (hdg : decode cc pc = .ok (.ifCond .ge off, 3)) (ht : (pc : Int) + off = (tgt : Int)) (ha : x.toInt = a)
    (kt : 0 ≤ a → W p l e R s m args below meth c H locs cells slots Q (F0 m tgt ls rest)) (kf : ¬ 0 ≤ a → W p l e R s m args below meth c H locs cells slots Q (F0 m (pc + 3) ls rest)) : W p l e R s m args below meth c H locs cells slots Q (F0 m pc ls (.int x :: rest)) := by
  subst ha
  exact lv_if_ge X.1 X.2.1 hdg ht (fun h => kt (by have q := Int32.le_iff_toInt_le.mp h; rw [zi_0] at q; exact q)) (fun h => kf (fun q => h (Int32.le_iff_toInt_le.mpr (by rw [zi_0]; exact q))))
theorem zr_icmp_ge (X : zw_X p m meth c cc nL ret s args own Y) {x y : Int32} {a b : Int} {off : Int} {tgt : Nat} (hdg : decode cc pc = .ok (.if_icmp .ge off, 3)) (ht : (pc : Int) + off = (tgt : Int)) (ha : x.toInt = a) (hb9 : y.toInt = b)
    (kt : b ≤ a → W p l e R s m args below meth c H locs cells slots Q (F0 m tgt ls rest)) (kf : ¬ b ≤ a → W p l e R s m args below meth c H locs cells slots Q (F0 m (pc + 3) ls rest)) : W p l e R s m args below meth c H locs cells slots Q (F0 m pc ls (.int y :: .int x :: rest)) := by
  subst ha
  subst hb9
  exact lv_icmp_ge X.1 X.2.1 hdg ht (fun h => kt (Int32.le_iff_toInt_le.mp h)) (fun h => kf (fun q => h (Int32.le_iff_toInt_le.mpr q)))
theorem zr_if_gt (X : zw_X p m meth c cc nL ret s args own Y) {x : Int32} {a : Int} {off : Int} {tgt : Nat} (hdg : decode cc pc = .ok (.ifCond .gt off, 3)) (ht : (pc : Int) + off = (tgt : Int)) (ha : x.toInt = a)
    (kt : 0 < a → W p l e R s m args below meth c H locs cells slots Q (F0 m tgt ls rest)) (kf : ¬ 0 < a → W p l e R s m args below meth c H locs cells slots Q (F0 m (pc + 3) ls rest)) : W p l e R s m args below meth c H locs cells slots Q (F0 m pc ls (.int x :: rest)) := by
  subst ha
  exact lv_if_gt X.1 X.2.1 hdg ht (fun h => kt (by have q := Int32.lt_iff_toInt_lt.mp h; rw [zi_0] at q; exact q)) (fun h => kf (fun q => h (Int32.lt_iff_toInt_lt.mpr (by rw [zi_0]; exact q))))
theorem zr_icmp_gt (X : zw_X p m meth c cc nL ret s args own Y) {x y : Int32} {a b : Int} {off : Int} {tgt : Nat} (hdg : decode cc pc = .ok (.if_icmp .gt off, 3)) (ht : (pc : Int) + off = (tgt : Int)) (ha : x.toInt = a) (hb9 : y.toInt = b)
    (kt : b < a → W p l e R s m args below meth c H locs cells slots Q (F0 m tgt ls rest)) (kf : ¬ b < a → W p l e R s m args below meth c H locs cells slots Q (F0 m (pc + 3) ls rest)) : W p l e R s m args below meth c H locs cells slots Q (F0 m pc ls (.int y :: .int x :: rest)) := by
  subst ha
  subst hb9
  exact lv_icmp_gt X.1 X.2.1 hdg ht (fun h => kt (Int32.lt_iff_toInt_lt.mp h)) (fun h => kf (fun q => h (Int32.lt_iff_toInt_lt.mpr q)))
theorem zr_if_le (X : zw_X p m meth c cc nL ret s args own Y) {x : Int32} {a : Int} {off : Int} {tgt : Nat} (hdg : decode cc pc = .ok (.ifCond .le off, 3)) (ht : (pc : Int) + off = (tgt : Int)) (ha : x.toInt = a)
    (kt : a ≤ 0 → W p l e R s m args below meth c H locs cells slots Q (F0 m tgt ls rest)) (kf : ¬ a ≤ 0 → W p l e R s m args below meth c H locs cells slots Q (F0 m (pc + 3) ls rest)) : W p l e R s m args below meth c H locs cells slots Q (F0 m pc ls (.int x :: rest)) := by
  subst ha
  exact lv_if_le X.1 X.2.1 hdg ht (fun h => kt (by have q := Int32.le_iff_toInt_le.mp h; rw [zi_0] at q; exact q)) (fun h => kf (fun q => h (Int32.le_iff_toInt_le.mpr (by rw [zi_0]; exact q))))
theorem zr_icmp_le (X : zw_X p m meth c cc nL ret s args own Y) {x y : Int32} {a b : Int} {off : Int} {tgt : Nat} (hdg : decode cc pc = .ok (.if_icmp .le off, 3)) (ht : (pc : Int) + off = (tgt : Int)) (ha : x.toInt = a) (hb9 : y.toInt = b)
    (kt : a ≤ b → W p l e R s m args below meth c H locs cells slots Q (F0 m tgt ls rest)) (kf : ¬ a ≤ b → W p l e R s m args below meth c H locs cells slots Q (F0 m (pc + 3) ls rest)) : W p l e R s m args below meth c H locs cells slots Q (F0 m pc ls (.int y :: .int x :: rest)) := by
  subst ha
  subst hb9
  exact lv_icmp_le X.1 X.2.1 hdg ht (fun h => kt (Int32.le_iff_toInt_le.mp h)) (fun h => kf (fun q => h (Int32.le_iff_toInt_le.mpr q)))
theorem zr_lret {mc ms : Nat} {post : zw_Po} (X : zw_X p m meth c cc nL (some .long) s args own Y) (hW : zw_St Y N0 ad sh g s H locs) (hdg : decode cc pc = .ok (.lreturn, 1)) (hc : cells ≤ mc) (hs : slots ≤ ms) {v : Int64} (hp : post (some (.long v)) ad sh g) : W p l e R s m args below meth c H locs cells slots (MQ below (zw_Q Y N0 post) args s mc ms (fun q => N0 ≤ q)) (F0 m pc ls [.long v]) := by
  obtain ⟨hx, hb, -, -, -, -, hr, hlk⟩ := X
  refine W.widen hc hs ?_
  exact W.lret hx hb hr (fun t ht hw => ⟨_, ad, sh, g, rfl, hp, by rw [ht]; exact hW.1, hW.2.1.F ht⟩) hW.2.1.2.2 hdg
/-- a call of a method of the object's own class, whose named method is another one above it (Seal's) -/
theorem zr_callU {x y : MethodName} {C owner : String} {bytes : ByteArray} {maxL : Nat} {rt : Option FieldType} {d lc mc ms n index : Nat} {post : zw_Po} {As : List Value} {r ci : Nat} {ss : List (Option (Option Nat))} {q : vw_C} (X : zw_X p m meth c cc nL ret s args own Y) (hW : zw_St Y N0 ad sh g s H locs) (hl : ls.size = nL) (h : sh r = some (.inl (ci, ss))) (hc : zw_cls[ci]? = some q) (hqc : q.1 = C) (hdg : decode cc pc = .ok (.invokevirtual index, 3)) (hn : As.length = n) (hst : st0 = As.reverse ++ .ref (ad r) :: rest) (hrm : (rest.map fun v => v.category).sum ≤ 8) (hf : cells + mc ≤ R.cells ∧ slots + ms ≤ R.slots)
    (hcw : zw_K Y s → (∀ w ∈ zt_good, w.before args s = true) → va_CU R s args own C owner index x y bytes maxL rt (Cond.code y bytes maxL rt :: zt_good) { frames := d, cells := mc, slots := ms, locals := lc } mc ms n)
    (hM : zw_Met l Y N0 y bytes maxL rt d lc mc ms ad sh g (.ref (ad r) :: As) post)
    (kk : ∀ (v : Option Value) (ad' : Nat → Nat) (sh' : Nat → Option zw_Sh) (g' : Nat → Nat → Int32) (H1 : Heap) (locs1 : List Loc), post v ad' sh' g' → zw_St Y N0 ad' sh' g' s H1 locs1 → W p l e R s m args below meth c H1 locs1 (cells + mc) (slots + ms) Q (F0 m (pc + 3) ls (v.toList ++ rest))) : W p l e R s m args below meth c H locs cells slots Q (F0 m pc ls st0) := by
  obtain ⟨hx, hb, hml, hown, hts, hK, -, -⟩ := X
  have hrecv := zw_cell hK hW h hc
  rw [hqc] at hrecv
  subst hst
  exact zr_run hW (va_runU (As := As) (rest := rest) (C := C) ⟨hx, hb, hml, hown, hts⟩ hM (hcw hK hts) ⟨zw_blind, hrecv, fun U hU hw9 => ⟨rfl, hK.warm hw9, by rw [hU]; exact hW.1, by rw [hU]; exact Nat.le_trans hW.2.2 hW.2.1.1⟩⟩ rfl hn hl rfl (lv_room hrm) hdg hf) kk
theorem zr_eqi {x v : Int32} (h : x = v) (k : W p l e R s m args below meth c H locs cells slots Q (F0 m pc ls (.int v :: rest))) : W p l e R s m args below meth c H locs cells slots Q (F0 m pc ls (.int x :: rest)) := by
  subst h
  exact k
end ZQ
/-! posts -/
abbrev zm_T : Type := Nat → Nat → Int32
/-- nothing changes; an int of which P holds -/
def zp_I (ad : Nat → Nat) (sh : Nat → Option zw_Sh) (g : zm_T) (P : Int32 → Prop) : zw_Po := fun v ad' sh' g' => ad = ad' ∧ sh = sh' ∧ g = g' ∧ ∃ r : Int32, v = some (.int r) ∧ P r
/-- nothing changes; whether P holds -/
def zp_B (ad : Nat → Nat) (sh : Nat → Option zw_Sh) (g : zm_T) (P : Prop) : zw_Po := fun v ad' sh' g' => ad = ad' ∧ sh = sh' ∧ g = g' ∧ ((P ∧ v = some (.int 1)) ∨ (¬ P ∧ v = some (.int 0)))
/-- the ints change alone -/
def zp_G (ad : Nat → Nat) (sh : Nat → Option zw_Sh) (P : Option Value → zm_T → Prop) : zw_Po := fun v ad' sh' g' => ad = ad' ∧ sh = sh' ∧ P v g'
/-! the reference's memory u and the rest -/
def zm_mix (u g0 : zm_T) : zm_T := fun r => if r < 100 then u r else g0 r
theorem zm_up {u g0 : zm_T} {k : Nat} {x : Nat → Int32} (hk : k < 100) : va_up (zm_mix u g0) k x = zm_mix (va_up u k x) g0 := by
  funext r
  by_cases h : r = k
  · subst h; simp [va_up, zm_mix, hk]
  · simp [va_up, zm_mix, h]
theorem zm_st {Y : zw_Y} {N0 : Nat} {ad : Nat → Nat} {sh : Nat → Option zw_Sh} {u g0 : zm_T} {s : State} {H : Heap} {locs : List Loc} {k : Nat} {x : Nat → Int32} (hk : k < 100) (h : zw_St Y N0 ad sh (va_up (zm_mix u g0) k x) s H locs) : zw_St Y N0 ad sh (zm_mix (va_up u k x) g0) s H locs := by rw [← zm_up hk]; exact h
/-- the change that a store of the reference's makes -/
def zm_w (u : zm_T) (r i : Nat) (x : Int32) : zm_T := va_up u r (upd (u r) i x)
theorem zm_ws (u : zm_T) (r i : Nat) (x : Int32) : zm_w u r i x r i = x := by simp [zm_w, va_up, upd]
theorem zm_wn (u : zm_T) {r i r' i' : Nat} (x : Int32) (h : r' ≠ r ∨ i' ≠ i) : zm_w u r i x r' i' = u r' i' := by
  by_cases hr : r' = r
  · subst hr
    rcases h with h | h
    · exact absurd rfl h
    · simp [zm_w, va_up, upd, h]
  · simp [zm_w, va_up, hr]
abbrev zm_sl : List (Option (Option Nat)) := [none, some (some 1), none, some (some 3), some (some 4), some (some 5), some (some 6), some (some 7), none, some (some 9), some (some 10), some (some 11), some (some 12), some (some 13), some (some 14), some (some 15), some (some 16), some (some 17), some (some 18), none, some (some 20), some (some 21), some (some 22), some (some 23), some (some 24), some (some 25), some (some 26), none, none, some (some 29)]
def zm_shl : List (Nat × zw_Sh) := [(0, .inl (9, zm_sl)), (1, .inr (0, 6, none)), (3, .inr (0, 6, none)), (4, .inr (1, 200, none)), (5, .inr (0, 12, none)), (6, .inr (0, 12, none)), (7, .inr (0, 36, none)), (9, .inr (0, 150, none)), (10, .inr (0, 150, none)), (11, .inr (0, 150, none)), (12, .inr (0, 150, none)), (13, .inr (0, 150, none)), (14, .inr (0, 150, none)), (15, .inr (0, 150, none)), (16, .inr (0, 150, none)), (17, .inr (0, 150, none)), (18, .inr (0, 150, none)), (20, .inr (0, 6, none)), (21, .inr (0, 6, none)), (22, .inr (0, 6, none)), (23, .inr (0, 12, none)), (24, .inr (0, 12, none)), (25, .inr (0, 6, none)), (26, .inr (0, 3, none)), (29, .inr (0, 12, none))]
def zm_S (sh : Nat → Option zw_Sh) : Prop := ∀ q ∈ zm_shl, sh q.1 = some q.2
theorem zm_s0 {sh : Nat → Option zw_Sh} (h : zm_S sh) : sh 0 = some (.inl (9, zm_sl)) := h _ (List.mem_of_getElem? (i := 0) rfl)
theorem zm_s1 {sh : Nat → Option zw_Sh} (h : zm_S sh) : sh 1 = some (.inr (0, 6, none)) := h _ (List.mem_of_getElem? (i := 1) rfl)
theorem zm_s3 {sh : Nat → Option zw_Sh} (h : zm_S sh) : sh 3 = some (.inr (0, 6, none)) := h _ (List.mem_of_getElem? (i := 2) rfl)
theorem zm_s4 {sh : Nat → Option zw_Sh} (h : zm_S sh) : sh 4 = some (.inr (1, 200, none)) := h _ (List.mem_of_getElem? (i := 3) rfl)
theorem zm_s5 {sh : Nat → Option zw_Sh} (h : zm_S sh) : sh 5 = some (.inr (0, 12, none)) := h _ (List.mem_of_getElem? (i := 4) rfl)
theorem zm_s6 {sh : Nat → Option zw_Sh} (h : zm_S sh) : sh 6 = some (.inr (0, 12, none)) := h _ (List.mem_of_getElem? (i := 5) rfl)
theorem zm_s7 {sh : Nat → Option zw_Sh} (h : zm_S sh) : sh 7 = some (.inr (0, 36, none)) := h _ (List.mem_of_getElem? (i := 6) rfl)
theorem zm_s9 {sh : Nat → Option zw_Sh} (h : zm_S sh) : sh 9 = some (.inr (0, 150, none)) := h _ (List.mem_of_getElem? (i := 7) rfl)
theorem zm_s10 {sh : Nat → Option zw_Sh} (h : zm_S sh) : sh 10 = some (.inr (0, 150, none)) := h _ (List.mem_of_getElem? (i := 8) rfl)
theorem zm_s11 {sh : Nat → Option zw_Sh} (h : zm_S sh) : sh 11 = some (.inr (0, 150, none)) := h _ (List.mem_of_getElem? (i := 9) rfl)
theorem zm_s12 {sh : Nat → Option zw_Sh} (h : zm_S sh) : sh 12 = some (.inr (0, 150, none)) := h _ (List.mem_of_getElem? (i := 10) rfl)
theorem zm_s13 {sh : Nat → Option zw_Sh} (h : zm_S sh) : sh 13 = some (.inr (0, 150, none)) := h _ (List.mem_of_getElem? (i := 11) rfl)
theorem zm_s14 {sh : Nat → Option zw_Sh} (h : zm_S sh) : sh 14 = some (.inr (0, 150, none)) := h _ (List.mem_of_getElem? (i := 12) rfl)
theorem zm_s15 {sh : Nat → Option zw_Sh} (h : zm_S sh) : sh 15 = some (.inr (0, 150, none)) := h _ (List.mem_of_getElem? (i := 13) rfl)
theorem zm_s16 {sh : Nat → Option zw_Sh} (h : zm_S sh) : sh 16 = some (.inr (0, 150, none)) := h _ (List.mem_of_getElem? (i := 14) rfl)
theorem zm_s17 {sh : Nat → Option zw_Sh} (h : zm_S sh) : sh 17 = some (.inr (0, 150, none)) := h _ (List.mem_of_getElem? (i := 15) rfl)
theorem zm_s18 {sh : Nat → Option zw_Sh} (h : zm_S sh) : sh 18 = some (.inr (0, 150, none)) := h _ (List.mem_of_getElem? (i := 16) rfl)
theorem zm_s20 {sh : Nat → Option zw_Sh} (h : zm_S sh) : sh 20 = some (.inr (0, 6, none)) := h _ (List.mem_of_getElem? (i := 17) rfl)
theorem zm_s21 {sh : Nat → Option zw_Sh} (h : zm_S sh) : sh 21 = some (.inr (0, 6, none)) := h _ (List.mem_of_getElem? (i := 18) rfl)
theorem zm_s22 {sh : Nat → Option zw_Sh} (h : zm_S sh) : sh 22 = some (.inr (0, 6, none)) := h _ (List.mem_of_getElem? (i := 19) rfl)
theorem zm_s23 {sh : Nat → Option zw_Sh} (h : zm_S sh) : sh 23 = some (.inr (0, 12, none)) := h _ (List.mem_of_getElem? (i := 20) rfl)
theorem zm_s24 {sh : Nat → Option zw_Sh} (h : zm_S sh) : sh 24 = some (.inr (0, 12, none)) := h _ (List.mem_of_getElem? (i := 21) rfl)
theorem zm_s25 {sh : Nat → Option zw_Sh} (h : zm_S sh) : sh 25 = some (.inr (0, 6, none)) := h _ (List.mem_of_getElem? (i := 22) rfl)
theorem zm_s26 {sh : Nat → Option zw_Sh} (h : zm_S sh) : sh 26 = some (.inr (0, 3, none)) := h _ (List.mem_of_getElem? (i := 23) rfl)
theorem zm_s29 {sh : Nat → Option zw_Sh} (h : zm_S sh) : sh 29 = some (.inr (0, 12, none)) := h _ (List.mem_of_getElem? (i := 24) rfl)
