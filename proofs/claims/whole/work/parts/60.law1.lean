/-! THE CLAIM OUT OF ONE WALK OF THE LAW'S BODY. Your part is whole_start (and what it stands on); all else here is the same for every law, but numbers. -/
def R_law : String := "TicketRealmLaw"
def lw_P (b : Addr) (xs : List Int32) (args : Array Value) (s : State) : Prop := args = #[.ref b] ∧ s.IntsAt b xs ∧ xs.length ≤ 3073 ∧ (Jvm.Cond.and given_1 narrow_1).before args s = true
def lw_Q (_ : Array Value) (s : State) (o : Outcome) (t : State) : Prop := o = .returned (some (.int 1)) ∧ Framed s o t [] 600000 7302250
def lw_Z (below : List Frame) (a : Array Value) (s : State) : State → Prop := fun t => ∃ o, t.status = .running ∧ Ended t below o ∧ lw_Q a s o t
/-- the law's own end, with 1 on the stack, nothing written that was there before, its room as the claim has it -/
theorem lw_ret {p : Program} {l : Launch} {e : Env} {s : State} {m : MethodId} {below : List Frame} {meth : Method} {c : Code} {b : Nat} (hx : p.tables.exec = Jvm.exec) (hb : c.code = code) (hr : meth.sig.returnType = ret) (hlocks : meth.locks = false) {pc : Nat} {H : Heap} {ls : Array Slot} (hdg : decode code pc = .ok (.ireturn, 1)) : W p l e room_1 s m #[Value.ref b] below meth c H [] 600000 7302250 (lw_Z below #[Value.ref b] s) (F0 m pc ls [.int 1]) := by
  intro T hT X
  obtain ⟨fs, hret, hrun, hended, hW, hframe⟩ := X.leave (v := some (.int 1)) (hlocks := hlocks) (fun h => by rw [hr] at h; cases h)
  have hmeth' : T.vm.method? m = some meth := X.method'
  refine ⟨T.setFrames fs, ?_, .returned (some (.int 1)), hrun, hended, rfl, ⟨_, rfl⟩, hW, hframe⟩
  jvm_step X.here [X.here.top, hx, hb, hdg, hmeth', hr, ret, narrow_b1]
  (try refine ⟨rfl, ?_⟩); (try refine ⟨rfl, ?_⟩)
  first | (intro acts; rw [hret _ acts rfl rfl rfl]) | rw [hret _ _ rfl rfl rfl]
  exact Steps.refl _
/-- what holds at the law's entry: the machine, the code, the tables' words (any of lw_tbl by 'hts w (by decide +kernel)'), the script of L ints xs at the cell b, what the Statement gives of the start (any of its parts by flat_of_before) -/
def lw_At (p : Program) (s : State) (m : MethodId) (meth : Method) (c : Code) (b L : Nat) (xs : Nat → Int32) : Prop :=
  p.tables.exec = Jvm.exec ∧ c.code = code ∧ meth.sig.returnType = ret ∧ c.maxLocals = 4 ∧ s.vm.findClass R_law = some m.cls ∧ (∀ w ∈ lw_tbl, w.before #[Value.ref b] s = true) ∧ va_X b L xs s s.heap ∧ b < s.heap.size ∧ meth.locks = false ∧ (Jvm.Cond.and given_1 narrow_1).before #[Value.ref b] s = true

/-- the law's script, beside a world -/
def zw_PcX (Y : zw_Y) (N0 : Nat) (ad : Nat → Nat) (sh : Nat → Option zw_Sh) (g : zm_T) (b L : Nat) (xs : Nat → Int32) (As : List Value) : Array Value → State → Prop := va_Pc As (fun U => zw_K Y U ∧ zw_ok Y N0 ad sh g U.heap ∧ N0 ≤ U.heap.size ∧ va_X b L xs U U.heap ∧ b < N0)
theorem zw_blindX {Y : zw_Y} {N0 : Nat} {ad : Nat → Nat} {sh : Nat → Option zw_Sh} {g : zm_T} {b L : Nat} {xs : Nat → Int32} {As : List Value} : FrameBlind (zw_PcX Y N0 ad sh g b L xs As) := fun a U f mk q => ⟨q.1, q.2.1.same rfl, q.2.2.1, q.2.2.2.1, va_X.moved (u := U) (U := U.calling f mk a) (Vm.Alike.refl U.vm) q.2.2.2.2.1, q.2.2.2.2.2⟩
def zx_0 (L : Nat) (xs : Nat → Int32) : Int32 := if 0 < L then xs 0 else 0
set_option maxHeartbeats 4000000 in
theorem c_L_cell (l : Launch) (Y : zw_Y) (N0 : Nat) (ad : Nat → Nat) (sh : Nat → Option zw_Sh) (g : zm_T) (b L : Nat) (xs : Nat → Int32) (hL : L ≤ 3073) : Met l yL_cell (Cond.code yL_cell cL_cell 2 (some .int) :: zt_good) { frames := 0, cells := 0, slots := 0, locals := 0 } (zw_PcX Y N0 ad sh g b L xs [.ref b, .int 0]) (zw_Q Y N0 (fun v ad' sh' g' => v = some (.int (zx_0 L xs)) ∧ ad = ad' ∧ sh = sh' ∧ g = g')) 0 0 (fun q => N0 ≤ q) := by
  refine Met.ofW (cc := cL_cell) (maxL := 2) (ret := some .int) (by decide) rfl ?_
  intro p e s m args below meth c s₁ B hml hv
  obtain ⟨rfl, hK, hok, h0, hX, hbl⟩ := hv
  have hts := atoms_spec (ws := Cond.code yL_cell cL_cell 2 (some .int) :: zt_good) B.pre
  have hl := lv_entry [.ref b, .int 0] (n := 2) (Nat.le_of_ble_eq_true rfl)
  rw [lg_entry_eq]
  generalize (lg_sl ([.ref b, .int 0]) ++ List.replicate (2 - (lg_sl ([.ref b, .int 0])).length) Slot.unset).toArray = ls at hl ⊢
  have hl : lv_has ls 2 [(0, .ref b), (1, .int 0)] := hl
  have X : zw_X p m meth c cL_cell 2 (some .int) s ([.ref b, .int 0] : List Value).toArray yL_cell.cls Y := ⟨B.exec, B.bytes, hml, findClass_of_methodNamed B.named, fun w hw => hts w (List.mem_cons_of_mem _ hw), hK, B.returns, B.notSynchronized⟩
  have hW : zw_St Y N0 ad sh g s s.heap [] := ⟨hok, va_S.rf, h0⟩
  have hbA : ¬ (fun q : Nat => N0 ≤ q) b := Nat.not_le.mpr hbl
  have hbs : b < s.heap.size := Nat.lt_of_lt_of_le hbl h0
  have hLI : (Int32.ofNat L).toInt = (L : Int) := nI_toInt (n := L) (by omega)
  refine lv_iload_n X.1 X.2.1 dL_cell_0 rfl (lv_at hl 1 rfl) ?_
  refine lv_aload_n X.1 X.2.1 dL_cell_1 rfl (lv_at hl 0 rfl) ?_
  refine va_slen X.1 X.2.1 hX hbs hbA hW.2.1 dL_cell_2 ?_
  refine zr_icmp_ge (a := 0) (b := (L : Int)) (tgt := 12) X dL_cell_3 (by decide) rfl hLI (fun c1 => ?_) (fun c1 => ?_)
  · refine lv_iconst (v := 0) X.1 X.2.1 dL_cell_12 (by decide) ?_
    exact zr_iret X hW dL_cell_13 (Nat.le_refl _) (Nat.le_refl _) ⟨by unfold zx_0; rw [if_neg (by omega)], rfl, rfl, rfl⟩
  · refine lv_aload_n X.1 X.2.1 dL_cell_6 rfl (lv_at hl 0 rfl) ?_
    refine lv_iload_n X.1 X.2.1 dL_cell_7 rfl (lv_at hl 1 rfl) ?_
    refine va_sld X.1 X.2.1 hX hbs hbA hW.2.1 (zi_vp (by rw [zi_0]; omega)) dL_cell_8 ?_
    refine lv_goto (tgt := 13) X.1 X.2.1 dL_cell_9 (by decide) ?_
    exact zr_iret X hW dL_cell_13 (Nat.le_refl _) (Nat.le_refl _) ⟨by unfold zx_0; rw [if_pos (by omega)]; rfl, rfl, rfl, rfl⟩
section ZX
variable {p : Program} {l : Launch} {e : Env} {R : Room} {s : State} {m : MethodId} {args : Array Value} {below : List Frame} {meth : Method} {c : Code} {H : Heap} {locs : List Loc} {cells slots : Nat} {Q : State → Prop}
variable {cc : ByteArray} {pc nL : Nat} {ret : Option FieldType} {ls : Array Slot} {rest st0 : List Value} {Y : zw_Y} {N0 : Nat} {ad : Nat → Nat} {sh : Nat → Option zw_Sh} {g : Nat → Nat → Int32} {own : String}
theorem zr_callX {y : MethodName} {bytes : ByteArray} {maxL : Nat} {rt : Option FieldType} {d lc mc ms n index b L : Nat} {xs : Nat → Int32} {post : zw_Po} {As : List Value} (X : zw_X p m meth c cc nL ret s args own Y) (hW : zw_St Y N0 ad sh g s H locs) (hX : va_X b L xs s s.heap) (hbl : b < N0) (hl : ls.size = nL) (D : zw_MD y bytes maxL rt n) (hw : Cond.methodLink own index y ∈ zt_good ∧ Cond.static y ∈ zt_good) (hdg : decode cc pc = .ok (.invokestatic index, 3)) (hn : As.length = n) (hst : st0 = As.reverse ++ rest) (hrm : (rest.map fun v => v.category).sum ≤ 8) (hfr : d + 1 ≤ R.frames ∧ 8 + (maxL + 11) + lc ≤ R.locals) (hf : cells + mc ≤ R.cells ∧ slots + ms ≤ R.slots)
    (hM : Met l y (Cond.code y bytes maxL rt :: zt_good) { frames := d, cells := mc, slots := ms, locals := lc } (zw_PcX Y N0 ad sh g b L xs As) (zw_Q Y N0 post) mc ms (fun q => N0 ≤ q))
    (kk : ∀ (v : Option Value) (ad' : Nat → Nat) (sh' : Nat → Option zw_Sh) (g' : Nat → Nat → Int32) (H1 : Heap) (locs1 : List Loc), post v ad' sh' g' → zw_St Y N0 ad' sh' g' s H1 locs1 → W p l e R s m args below meth c H1 locs1 (cells + mc) (slots + ms) Q (F0 m (pc + 3) ls (v.toList ++ rest))) : W p l e R s m args below meth c H locs cells slots Q (F0 m pc ls st0) := by
  obtain ⟨hx, hb, hml, hown, hts, hK, -, -⟩ := X
  subst hst
  have hbs : b < s.heap.size := Nat.lt_of_lt_of_le hbl hW.2.2
  have hXH : va_X b L xs s H := va_X.kept hX (hW.2.1.2.1 b hbs (Nat.not_le.mpr hbl))
  refine zr_run hW (va_runS (As := As) (rest := rest) ⟨hx, hb, hml, hown, hts⟩ hM (va_cwS n hts (zt_code (ws := [.methodLink own index y, .static y, .initialized y.cls]) D.1 ?_) rfl rfl rfl D.2.2 hfr) ⟨zw_blindX, fun U hU hw9 => ⟨rfl, hK.warm hw9, by rw [hU]; exact hW.1, by rw [hU]; exact Nat.le_trans hW.2.2 hW.2.1.1, by rw [hU]; exact va_X.moved hw9.alike hXH, hbl⟩⟩ rfl hn hl rfl (lv_room hrm) hdg hf) kk
  intro w hw9
  simp only [List.mem_cons, List.not_mem_nil, or_false] at hw9
  rcases hw9 with rfl | rfl | rfl
  · exact hw.1
  · exact hw.2
  · exact D.2.1
end ZX
theorem zc_lm100 {r i m k : Nat} (h : zc_lm r i = some (m, k)) : 100 ≤ r := by
  unfold zc_lm at h
  by_cases c0 : r = 100 ∧ i = 0
  · omega
  rw [if_neg c0] at h
  by_cases c1 : r = 100 ∧ i = 8
  · omega
  rw [if_neg c1] at h
  by_cases c2 : r = 100 ∧ i = 10
  · omega
  rw [if_neg c2] at h
  by_cases c3 : r = 100 ∧ i = 11
  · omega
  rw [if_neg c3] at h
  by_cases c4 : r = 101 ∧ i < 6
  · omega
  rw [if_neg c4] at h
  by_cases c5 : r = 102 ∧ i < 6
  · omega
  rw [if_neg c5] at h
  by_cases c6 : r = 108 ∧ i < 200
  · omega
  rw [if_neg c6] at h
  by_cases c7 : r = 109 ∧ i < 6
  · omega
  rw [if_neg c7] at h
  by_cases c8 : r = 110 ∧ i < 6
  · omega
  rw [if_neg c8] at h
  by_cases c9 : r = 112 ∧ i < 6
  · omega
  rw [if_neg c9] at h
  by_cases c10 : r = 113 ∧ i < 6
  · omega
  rw [if_neg c10] at h
  by_cases c11 : 121 ≤ r ∧ r < 127 ∧ i < 3
  · omega
  rw [if_neg c11] at h
  by_cases c12 : 127 ≤ r ∧ r < 133 ∧ i < 3
  · omega
  rw [if_neg c12] at h
  by_cases c13 : r = 106 ∧ i = 2
  · omega
  rw [if_neg c13] at h
  by_cases c14 : r = 106 ∧ i = 3
  · omega
  rw [if_neg c14] at h
  by_cases c15 : r = 119 ∧ i < 3
  · omega
  rw [if_neg c15] at h
  by_cases c16 : 115 ≤ r ∧ r < 119 ∧ i = 0
  · omega
  rw [if_neg c16] at h
  by_cases c17 : 115 ≤ r ∧ r < 119 ∧ i = 1
  · omega
  rw [if_neg c17] at h
  by_cases c18 : 115 ≤ r ∧ r < 119 ∧ i = 3
  · omega
  rw [if_neg c18] at h
  by_cases c19 : (r = 133 ∨ r = 135 ∨ r = 137 ∨ r = 139) ∧ i < 2
  · omega
  rw [if_neg c19] at h
  cases h
theorem zc_sh100 : ∀ r ∈ zc_shl.map Prod.fst, 100 ≤ r := by decide
theorem zm_sh100 : ∀ r ∈ zm_shl.map Prod.fst, r < 100 := by decide
/-- what isn't the class's may change -/
theorem zc_Rc {sh sh' : Nat → Option zw_Sh} {g g' u : zm_T} (hR : zc_R sh g u) (h : ∀ r : Nat, 100 ≤ r → sh' r = sh r ∧ g' r = g r) : zc_R sh' g' u := by
  obtain ⟨h1, h2, h3, h4, h5, h6, h7, cf, h8, h9⟩ := hR
  refine ⟨fun q hq => ?_, fun r i m k hl => ?_, fun j hj hn => ?_, fun j t hj ht hn => ?_, ?_, fun i hi => ?_, fun r hr => ?_, cf, ?_, h9⟩
  · rw [(h q.1 (zc_sh100 q.1 (List.mem_map.mpr ⟨q, hq, rfl⟩))).1]; exact h1 q hq
  · rw [(h r (zc_lm100 hl)).2]; exact h2 r i m k hl
  · rw [(h _ (by omega)).2]; exact h3 j hj hn
  · rw [(h _ (by omega)).2]; exact h4 j t hj ht hn
  · rw [(h 107 (by omega)).1]; exact h5
  · have q := h6 i hi
    unfold zc_sl at q ⊢
    rw [(h (200 + 2 * i) (by omega)).1, (h (201 + 2 * i) (by omega)).1, (h (200 + 2 * i) (by omega)).2, (h (201 + 2 * i) (by omega)).2]
    exact q
  · rw [(h r (by omega)).1]; exact h7 r hr
  · rw [(h 120 (by omega)).1]; exact h8
theorem zm_Sc {sh sh' : Nat → Option zw_Sh} (hM : zm_S sh) (h : ∀ r : Nat, r < 100 → sh' r = sh r) : zm_S sh' := fun q hq => by
  rw [h q.1 (zm_sh100 q.1 (List.mem_map.mpr ⟨q, hq, rfl⟩))]; exact hM q hq
theorem zm_mixr {u g0 : zm_T} {r : Nat} (h : 100 ≤ r) : zm_mix u g0 r = g0 r := by unfold zm_mix; rw [if_neg (by omega)]
theorem zm_mixl {u g0 : zm_T} {r : Nat} (h : r < 100) : zm_mix u g0 r = u r := by unfold zm_mix; rw [if_pos h]
theorem zm_mixm {u u' g0 : zm_T} : zm_mix u (zm_mix u g0) = zm_mix u g0 := by
  funext r
  by_cases h : r < 100
  · rw [zm_mixl h, zm_mixl h]
  · rw [zm_mixr (by omega), zm_mixr (by omega)]
theorem zI_seal {u : zm_T} (s w : Int32) (hI : zm_I u) : zm_I (sp_seal s w u).2 := by
  unfold sp_seal
  split
  · exact hI
  · split
    · exact hI
    · split <;> exact hI
/-- the law between two calls -/
def lw_I (Y : zw_Y) (s : State) (ax am : Nat) (ad : Nat → Nat) (sh : Nat → Option zw_Sh) (g u : zm_T) (H : Heap) (locs : List Loc) : Prop :=
  zw_St Y s.heap.size ad sh g s H locs ∧ zm_S sh ∧ zc_R sh g u ∧ g = zm_mix u g ∧ zm_I u ∧ ad 100 = ax ∧ ad 0 = am
