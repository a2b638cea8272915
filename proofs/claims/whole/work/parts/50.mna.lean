/-! new int[6][3]: seven cells at once -/
def zv_c (c : ClassId) (h n : Nat) : Cell := arrV c 6 (fun j => va_rf (if j < n then some (h + 1 + j) else none))
def zv_r (c : ClassId) : Cell := arrV c 3 (fun _ => .int 0)
/-- the outer array and the first i of its rows are made -/
def zv_s (T : State) (c b : ClassId) : Nat → State
  | 0 => T.pushCell (zv_c c T.heap.size 0)
  | i + 1 => ((zv_s T c b i).pushCell (zv_r b)).setCell T.heap.size (zv_c c T.heap.size (i + 1))
theorem zv_cs (c : ClassId) (h i : Nat) : (zv_c c h i).setSlot i (.ref (h + 1 + i)) = zv_c c h (i + 1) := by
  unfold zv_c
  rw [arrV_store]
  refine congrArg (arrV c 6) (funext fun j => ?_)
  unfold updV
  by_cases e : j = i
  · rw [if_pos e, e, if_pos (Nat.lt_succ_self i)]; rfl
  · rw [if_neg e]
    show va_rf (if j < i then some (h + 1 + j) else none) = _
    by_cases h2 : j < i
    · rw [if_pos h2, if_pos (by omega)]
    · rw [if_neg h2, if_neg (by omega)]
theorem zv_f (T : State) (c b : ClassId) : ∀ i : Nat, (zv_s T c b i).heap.size = T.heap.size + 1 + i ∧ (zv_s T c b i).heap[T.heap.size]? = some (zv_c c T.heap.size i) ∧ (zv_s T c b i).vm = T.vm ∧ (zv_s T c b i).slotsUsed = T.slotsUsed + 6 + 3 * i ∧
    (∀ a : Nat, a < T.heap.size → (zv_s T c b i).heap[a]? = T.heap[a]?) ∧ (∀ j : Nat, j < i → (zv_s T c b i).heap[T.heap.size + 1 + j]? = some (zv_r b))
  | 0 => by
    refine ⟨by simp [zv_s], by simp [zv_s], rfl, ?_, fun a ha => ?_, fun j hj => absurd hj (Nat.not_lt_zero _)⟩
    · have h : (zv_c c T.heap.size 0).slots.size = 6 := arrV_size c 6 _
      simp [zv_s, h]
    · exact State.heap_pushCell_of_lt _ _ ha
  | i + 1 => by
    obtain ⟨f1, f2, f3, f4, f5, f6⟩ := zv_f T c b i
    have hlt : T.heap.size < (zv_s T c b i).heap.size := by omega
    have hq : ((zv_s T c b i).pushCell (zv_r b)).heap[T.heap.size]? = some (zv_c c T.heap.size i) := by rw [State.heap_pushCell_of_lt (h := hlt)]; exact f2
    have hr := arrV_size b 3 (fun _ => .int 0)
    refine ⟨?_, State.heap_setCell_self hq, by simp [zv_s, f3], ?_, fun a ha => ?_, fun j hj => ?_⟩
    · simp [zv_s, State.setCell, f1]; omega
    · simp [zv_s, f4, zv_r, hr]; omega
    · show (((zv_s T c b i).pushCell (zv_r b)).setCell T.heap.size _).heap[a]? = _
      have hl2 : a < (zv_s T c b i).heap.size := by omega
      rw [State.heap_setCell_other (Nat.ne_of_gt ha), State.heap_pushCell_of_lt (h := hl2)]
      exact f5 a ha
    · show (((zv_s T c b i).pushCell (zv_r b)).setCell T.heap.size _).heap[T.heap.size + 1 + j]? = _
      rw [State.heap_setCell_other (show T.heap.size ≠ T.heap.size + 1 + j by omega)]
      by_cases e : j = i
      · subst e
        rw [← f1]
        exact State.heap_pushCell_size _ _
      · have hl2 : T.heap.size + 1 + j < (zv_s T c b i).heap.size := by omega
        rw [State.heap_pushCell_of_lt (h := hl2)]
        exact f6 j (by omega)
theorem zv_top (T : State) (f : JFrame) (c b : ClassId) : ∀ i : Nat, zv_s (T.setTop f) c b i = (zv_s T c b i).setTop f
  | 0 => rfl
  | i + 1 => by simp only [zv_s, zv_top T f c b i, State.heap_setTop, State.pushCell_setTop, State.setCell_setTop]
section ZV
variable {E : CtlPost} {e : Env} {d : Bool} {acts : List Action} {s : State}
/-- an array is made -/
theorem zv_na {c b : ClassId} {k : Class} {ty : FieldType} {n : Nat} {v : Value} (hk : s.vm.classes[c]? = some k) (hkd : k.kind = .array b ty) (hf : fits ty v = true) (h1 : ¬ n > e.platform.arrayLengthLimit) (h2 : ¬ n * componentBytes ty > e.platform.maxHeapBytes) (h3 : s.heap.size < e.platform.maxCells) (h4 : s.slotsUsed + n ≤ e.platform.maxSlots) {Q : Addr → Pre}
    (hq : ∀ acts', Q s.heap.size d acts' (s.pushCell (arrV c n (fun _ => v)))) : wp (Jvm.newArray c n v) Q E e d acts s := by
  have hfits : ∀ i w, (Array.replicate n v)[i]? = some w → s.fitsSlot c .none i w = true := by
    intro i w hw
    rw [Array.getElem?_replicate] at hw
    split at hw
    · cases hw
      simp [State.fitsSlot, State.slotType?, hk, hkd, hf]
    · cases hw
  simp only [Jvm.newArray, Jvm.arrayFits, wp_bind', W.ask, W.ite, h1, if_false, wp_pure', W.theClass, hk, hkd, h2, W.alloc, W.stop, Option.some.injEq, exists_eq_left', Array.size_replicate]
  rw [if_neg (by omega), arrV_new]
  exact ⟨h3, h4, hfits, hq _⟩
theorem zv_mk {c b b0 : ClassId} {k kb : Class} (hk : s.vm.classes[c]? = some k) (hkd : k.kind = .array b (.array .int)) (hkb : s.vm.classes[b]? = some kb) (hkbd : kb.kind = .array b0 .int) (hl : ¬ 6 > e.platform.arrayLengthLimit) (hh : ¬ 24 > e.platform.maxHeapBytes) (h3 : s.heap.size + 7 ≤ e.platform.maxCells) (h4 : s.slotsUsed + 24 ≤ e.platform.maxSlots) {Q : Addr → Pre}
    (hq : ∀ d' acts', Q s.heap.size d' acts' (zv_s s c b 6)) : wp (multianewarray.make c [6, 3]) Q E e d acts s := by
  rw [multianewarray.make]
  simp only [wp_bind', W.ite, show ¬ ((6 : Int32) < 0) by decide, if_false, wp_pure', W.theClass, hk, hkd, Option.some.injEq, exists_eq_left', show (6 : Int32).toNatClampNeg = 6 from rfl]
  refine zv_na hk hkd rfl hl hh (by omega) (by omega) (fun acts1 => ?_)
  simp only [show ([(3 : Int32)].find? (· < 0)) = none by decide]
  rw [ite_self, wp_bind', Std.Legacy.Range.forIn_eq_forIn_range']
  rw [show ([:6] : Std.Legacy.Range).size = 6 by simp [Std.Legacy.Range.size]]
  show wp (forIn (List.range' 0 6 1) PUnit.unit _) _ E e d acts1 _
  refine wp_forIn_inv (fun rest s' => ∃ i : Nat, i ≤ 6 ∧ rest = List.range' i (6 - i) ∧ s' = zv_s s c b i) _ _ ⟨0, by omega, rfl, ?_⟩ ?_ ?_
  · show s.pushCell _ = s.pushCell _
    refine congrArg s.pushCell (congrArg (arrV c 6) (funext fun j => ?_))
    rw [if_neg (Nat.not_lt_zero _)]; rfl
  · intro x rest s' d' acts' Q' hi hnext
    obtain ⟨i, hle6, hl6, rfl⟩ := hi
    by_cases hi6 : 6 ≤ i
    · rw [show 6 - i = 0 by omega] at hl6; cases hl6
    rw [show 6 - i = (6 - (i + 1)) + 1 by omega, List.range'_succ] at hl6
    obtain ⟨rfl, hrest⟩ := List.cons.inj hl6
    obtain ⟨f1, f2, f3, f4, f5, f6⟩ := zv_f s c b x
    simp only [wp_bind']
    rw [multianewarray.make]
    simp only [wp_bind', W.ite, show ¬ ((3 : Int32) < 0) by decide, if_false, wp_pure', W.theClass, f3, hkb, hkbd, Option.some.injEq, exists_eq_left', show (3 : Int32).toNatClampNeg = 3 from rfl]
    refine zv_na (by rw [f3]; exact hkb) hkbd rfl (by omega) (by show ¬ 12 > _; omega) (by omega) (by omega) (fun acts2 => ?_)
    have hlt : s.heap.size < (zv_s s c b x).heap.size := by omega
    simp only [wp_bind', W.writeLoc, wp_pure']
    refine ⟨zv_c c s.heap.size x, by rw [State.heap_pushCell_of_lt (h := hlt)]; exact f2, by unfold zv_c arrV; simp, by unfold zv_c; rw [arrV_size]; omega, ?_, hnext _ _ _ ⟨x + 1, by omega, hrest, ?_⟩⟩
    · simp [zv_c, arrV, State.fitsSlot, State.slotType?, f3, hk, hkd, fits]
    · rw [f1, zv_cs]; rfl
  · intro s' d' acts' hi
    obtain ⟨i, hle6, hl6, rfl⟩ := hi
    have hi6 : 6 ≤ i := by
      rcases Nat.lt_or_ge i 6 with h | h
      · rw [show 6 - i = (6 - (i + 1)) + 1 by omega, List.range'_succ] at hl6; cases hl6
      · exact h
    obtain rfl : i = 6 := by omega
    simp only [wp_pure']
    exact hq _ _
end ZV
section ZVW
variable {p : Program} {l : Launch} {e : Env} {R : Room} {s : State} {m : MethodId} {args : Array Value} {below : List Frame} {meth : Method} {c : Code} {H : Heap} {locs : List Loc} {cells slots : Nat} {Q : State → Prop}
variable {cc : ByteArray} {pc nL : Nat} {ret : Option FieldType} {ls : Array Slot} {rest : List Value} {Y : zw_Y} {N0 : Nat} {ad : Nat → Nat} {sh : Nat → Option zw_Sh} {g : Nat → Nat → Int32} {own : String}
theorem zv_stand {T : State} (X : Stand p l e R s m args below meth c T locs cells slots) (cA b : ClassId) : ∀ i : Nat, Stand p l e R s m args below meth c (zv_s T cA b i) (locs ++ (List.range i).map (fun j => (⟨T.heap.size, j⟩ : Loc))) (cells + 1 + i) (slots + 6 + 3 * i)
  | 0 => by
    have h := X.pushed (zv_c cA T.heap.size 0)
    rw [show (zv_c cA T.heap.size 0).slots.size = 6 from arrV_size cA 6 _] at h
    simpa [zv_s] using h
  | i + 1 => by
    have h0 := zv_stand X cA b i
    obtain ⟨f1, f2, f3, f4, f5, f6⟩ := zv_f T cA b i
    have hlt : T.heap.size < (zv_s T cA b i).heap.size := by omega
    have hq : ((zv_s T cA b i).pushCell (zv_r b)).heap[T.heap.size]? = some (zv_c cA T.heap.size i) := by rw [State.heap_pushCell_of_lt (h := hlt)]; exact f2
    have h := (h0.pushed (zv_r b)).stored hq i (.ref (T.heap.size + 1 + i))
    rw [zv_cs, show (zv_r b).slots.size = 3 from arrV_size b 3 _] at h
    rw [List.range_succ, List.map_append, ← List.append_assoc, show slots + 6 + 3 * (i + 1) = slots + 6 + 3 * i + 3 by omega]
    exact h
/-- 'multianewarray' of six rows of three -/
theorem zv_step (hx : p.tables.exec = Jvm.exec) (hb : c.code = cc) {index : Nat} (hown : s.vm.findClass own = some m.cls) (hcl : (Cond.classLink own index "[[I").before args s = true) (hAA : zt_AA s) (har : (Cond.arrayClass .int).before args s = true) (hdg : decode cc pc = .ok (.multianewarray index 2, 4)) (hcells : cells + 7 ≤ R.cells) (hslots : slots + 24 ≤ R.slots)
    (kk : ∀ (cA b : ClassId) (H1 : Heap), s.vm.findClass "[[I" = some cA → s.vm.findClass "[I" = some b → H1.size = H.size + 7 → H1[H.size]? = some (zv_c cA H.size 6) → (∀ j : Nat, j < 6 → H1[H.size + 1 + j]? = some (zv_r b)) → (∀ a : Nat, a < H.size → H1[a]? = H[a]?) → W p l e R s m args below meth c H1 locs (cells + 7) (slots + 24) Q (F0 m (pc + 4) ls (.ref H.size :: rest))) : W p l e R s m args below meth c H locs cells slots Q (F0 m pc ls (.int 3 :: .int 6 :: rest)) := by
  intro T hT X
  have hpl : e.platform.magicAccessors = ({} : Platform).magicAccessors := by rw [X.admits.platform]
  obtain ⟨b, cA, kA, hb1, hkA, hkdA, hcA⟩ := hAA
  obtain ⟨b', kB, b0, hb2, hkB, hkdB⟩ := Cond.arrayClass_spec har
  obtain rfl : b' = b := Option.some.inj (hb2.symm.trans hb1)
  obtain ⟨c0, hc0, hlk⟩ := Cond.classLink_spec hown hcl e.platform hpl
  obtain rfl : c0 = cA := Option.some.inj (hc0.symm.trans hcA)
  obtain ⟨hg1, hw1, hr1⟩ := State.classEntry (e := e) X.warmed hlk
  generalize T.vm.noted m.cls index (.cls c0) = vm1 at hg1 hw1 hr1
  obtain ⟨kA1, hkA1, heA⟩ := hw1.alike.2.2 _ _ hkA
  obtain ⟨kB1, hkB1, heB⟩ := hw1.alike.2.2 _ _ hkB
  have hdA1 : kA1.kind = .array b' (.array .int) := by rw [heA]; exact hkdA
  have hdB1 : kB1.kind = .array b0 .int := by rw [heB]; exact hkdB
  have X1 := X.noted hw1
  obtain ⟨hr2, hr3⟩ := X.roomAbove hcells hslots
  have X2 : Stand p l e R s m args below meth c (zv_s (T.setVm vm1) c0 b' 6) locs (cells + 7) (slots + 24) := (zv_stand X1 c0 b' 6).dropFresh (fun x hx => by
    obtain ⟨j, -, rfl⟩ := List.mem_map.mp hx
    exact X.heapGrown)
  obtain ⟨f1, f2, f3, f4, f5, f6⟩ := zv_f (T.setVm vm1) c0 b' 6
  have hTh : (T.setVm vm1).heap = H := hT
  rw [hTh] at f1 f2 f5 f6
  obtain ⟨t, ht1, ht2⟩ := kk c0 b' _ hcA hb1 f1 f2 f6 f5 _ rfl X2
  refine ⟨t, ?_, ht2⟩
  have hl1 : ¬ 6 > e.platform.arrayLengthLimit := by rw [Launch.admits_arrayLengthLimit X.admits]; omega
  have hh1 : ¬ 24 > e.platform.maxHeapBytes := by rw [Launch.admits_maxHeapBytes X.admits]; omega
  jvm_step X.here [hx, hb, hdg]
  simp only [multianewarray.sem, wp_bind', W.resolveClassAt_links (State.method?_setTop (F0 m pc ls (.int 3 :: .int 6 :: rest)) X.here.top) hg1]
  rw [W.popN, if_neg (by decide)]
  refine ⟨F0 m pc ls (.int 3 :: .int 6 :: rest), State.topJava?_setTop' (s := T.setVm vm1) _ X.here.top, [.int 6, .int 3], rest, rfl, rfl, ?_⟩
  simp only [List.mapM_cons, List.mapM_nil, wp_bind', wp_pure']
  refine zv_mk (k := kA1) (kb := kB1) (b := b') (b0 := b0) hkA1 hdA1 hkB1 hdB1 hl1 hh1 (by show T.heap.size + 7 ≤ _; omega) (by show T.slotsUsed + 24 ≤ _; omega) (fun d' acts' => ?_)
  have eS : ((T.setTop (F0 m pc ls (.int 3 :: .int 6 :: rest))).setVm vm1).setTop { F0 m pc ls (.int 3 :: .int 6 :: rest) with stack := rest } = (T.setVm vm1).setTop (F0 m pc ls rest) := by
    show ((T.setVm vm1).setTop _).setTop _ = _
    rw [State.setTop_setTop]
  rw [eS, zv_top]
  simp only [wp_bind', W.mark, W.pushRef, State.topJava?_setTop' _ X2.here.top, Option.some.injEq, exists_eq_left', State.setTop_setTop, State.heap_setTop]
  intro acts
  simp [jvm, X2.here.top]
  rw [hT]
  exact ht1
/-- a cell that is there becomes a role of the world -/
theorem zw_add {H1 : Heap} (hok : zw_ok Y N0 ad sh g H1) {r q : Nat} {e' : zw_Sh} {x' : Nat → Int32} (h0 : sh r = none) (he : ∀ r', zw_re e' r' → sh r' ≠ none) (hq : va_at Y.1 zw_cls (q, zw_ce Y.2 ad x' e') H1) (hN : N0 ≤ q) (hf : ∀ r', sh r' ≠ none → ad r' ≠ q) : zw_ok Y N0 (va_up ad r q) (va_up sh r (some e')) (va_up g r x') H1 := by
  obtain ⟨L, hn, hL, hP, hD, hcl⟩ := hok
  have hrL : r ∉ L := fun h => (hL r).mp h h0
  have hne : ∀ r', sh r' ≠ none → r' ≠ r := fun r' h e => h (e ▸ h0)
  have hs : L.map (zw_F Y ad sh g) ++ [(q, zw_ce Y.2 ad x' e')] = (L ++ [r]).map (zw_F Y (va_up ad r q) (va_up sh r (some e')) (va_up g r x')) := by
    rw [List.map_append]
    congr 1
    · apply List.map_congr_left
      intro j hj
      have hjr : j ≠ r := fun e => hrL (e ▸ hj)
      simp only [zw_F, va_up_ne _ _ hjr]
      congr 1
      cases hsj : sh j with
      | none => rfl
      | some e => exact (zw_ce_ad fun r' hr' => va_up_ne _ _ (hne r' (hcl j e hsj r' hr'))).symm
    · simp only [List.map_cons, List.map_nil, zw_F, va_up_self]
      rw [zw_ce_ad (ad' := va_up ad r q) (ad := ad) (fun r' hr' => va_up_ne _ _ (hne r' (he r' hr')))]
  have hP2 : va_P Y.1 zw_cls (L.map (zw_F Y ad sh g) ++ [(q, zw_ce Y.2 ad x' e')]) H1 := hP.app (fun k x hx => by
    have h1 : k < 1 := (List.getElem?_eq_some_iff.mp hx).1
    obtain rfl : k = 0 := by omega
    cases hx
    exact hq)
  have hin : ∀ (k : Nat) (x : Nat × va_E), (L.map (zw_F Y ad sh g))[k]? = some x → ∃ r', sh r' ≠ none ∧ x.1 = ad r' := fun k x hx => by
    rw [List.getElem?_map] at hx
    cases hl : L[k]? with
    | none => rw [hl] at hx; cases hx
    | some r' =>
      rw [hl] at hx
      cases hx
      exact ⟨r', (hL r').mp (List.mem_of_getElem? hl), rfl⟩
  have hlen : ∀ (k : Nat) (x : Nat × va_E), (L.map (zw_F Y ad sh g) ++ [(q, zw_ce Y.2 ad x' e')])[k]? = some x → (L.map (zw_F Y ad sh g))[k]? = some x ∨ (k = (L.map (zw_F Y ad sh g)).length ∧ x = (q, zw_ce Y.2 ad x' e')) := fun k x hx => by
    rcases Nat.lt_or_ge k (L.map (zw_F Y ad sh g)).length with h | h
    · rw [List.getElem?_append_left h] at hx; exact Or.inl hx
    · rw [List.getElem?_append_right h] at hx
      have h1 : k - (L.map (zw_F Y ad sh g)).length < 1 := (List.getElem?_eq_some_iff.mp hx).1
      rw [show k - (L.map (zw_F Y ad sh g)).length = 0 by omega] at hx
      cases hx
      exact Or.inr ⟨by omega, rfl⟩
  have hD2 : va_D (fun q => N0 ≤ q) (L.map (zw_F Y ad sh g) ++ [(q, zw_ce Y.2 ad x' e')]) := by
    refine ⟨fun i j a b ha hb hab => ?_, fun k x hx => ?_⟩
    · rcases hlen i a ha with h1 | ⟨h1, rfl⟩ <;> rcases hlen j b hb with h2 | ⟨h2, rfl⟩
      · exact hD.1 i j a b h1 h2 hab
      · obtain ⟨r', hr', e1⟩ := hin i a h1
        exact absurd (e1.symm.trans hab) (hf r' hr')
      · obtain ⟨r', hr', e1⟩ := hin j b h2
        exact absurd (e1.symm.trans hab.symm) (hf r' hr')
      · rw [h1, h2]
    · rcases hlen k x hx with h1 | ⟨-, rfl⟩
      · exact hD.2 k x h1
      · exact hN
  rw [hs] at hP2 hD2
  refine ⟨L ++ [r], List.nodup_append.mpr ⟨hn, by simp, ?_⟩, fun j => ?_, hP2, hD2, fun j e hj r' hr' => ?_⟩
  · intro a ha b hb
    rw [List.mem_singleton] at hb
    subst hb
    exact fun e => hrL (e ▸ ha)
  · rw [List.mem_append, List.mem_singleton]
    by_cases hjr : j = r
    · subst hjr; simp [va_up]
    · simp [hjr, va_up, hL j]
  · by_cases hrr : r' = r
    · subst hrr; simp [va_up]
    · rw [va_up_ne _ _ hrr]
      by_cases hjr : j = r
      · subst hjr
        rw [va_up_self] at hj
        cases hj
        exact he r' hr'
      · rw [va_up_ne _ _ hjr] at hj
        exact hcl j e hj r' hr'
/-- the rows rb .. rb + 5 and the outer array r: seven new roles -/
def zv_sh (sh : Nat → Option zw_Sh) (r rb : Nat) : Nat → Option zw_Sh := va_up (va_up (va_up (va_up (va_up (va_up (va_up sh rb (some (.inr (0, 3, none)))) (rb + 1) (some (.inr (0, 3, none)))) (rb + 2) (some (.inr (0, 3, none)))) (rb + 3) (some (.inr (0, 3, none)))) (rb + 4) (some (.inr (0, 3, none)))) (rb + 5) (some (.inr (0, 3, none)))) r (some (.inr (5, 6, some (fun i => if i < 6 then some (rb + i) else none))))
def zv_g (g : Nat → Nat → Int32) (r rb : Nat) : Nat → Nat → Int32 := va_up (va_up (va_up (va_up (va_up (va_up (va_up g rb (fun _ => 0)) (rb + 1) (fun _ => 0)) (rb + 2) (fun _ => 0)) (rb + 3) (fun _ => 0)) (rb + 4) (fun _ => 0)) (rb + 5) (fun _ => 0)) r (fun _ => 0)
def zv_b (sh : Nat → Option zw_Sh) (ad : Nat → Nat) (h b : Nat) : Prop := ∀ r', sh r' ≠ none → ad r' < b ∧ ad r' ≠ h
theorem zv_bs {h b r : Nat} {e' : zw_Sh} (hb : zv_b sh ad h b) (hhb : h < b) : zv_b (va_up sh r (some e')) (va_up ad r b) h (b + 1) := fun r' hr => by
  by_cases e : r' = r
  · subst e; rw [va_up_self]; omega
  · rw [va_up_ne _ _ e] at hr ⊢
    have := hb r' hr
    omega
theorem zr_mna (X : zw_X p m meth c cc nL ret s args own Y) (hW : zw_St Y N0 ad sh g s H locs) {index : Nat} (hw : Cond.classLink own index "[[I" ∈ zt_good) (ha : Cond.arrayClass .int ∈ zt_good) (hdg : decode cc pc = .ok (.multianewarray index 2, 4)) (r rb : Nat) (h0 : sh r = none) (h1 : ∀ j : Nat, j < 6 → sh (rb + j) = none) (hr : ∀ j : Nat, j < 6 → r ≠ rb + j) (hcells : cells + 7 ≤ R.cells) (hslots : slots + 24 ≤ R.slots)
    (kk : ∀ (ad' : Nat → Nat) (H1 : Heap), (∀ r', r' ≠ r → (r' < rb ∨ rb + 6 ≤ r') → ad' r' = ad r') → zw_St Y N0 ad' (zv_sh sh r rb) (zv_g g r rb) s H1 locs → W p l e R s m args below meth c H1 locs (cells + 7) (slots + 24) Q (F0 m (pc + 4) ls (.ref (ad' r) :: rest))) : W p l e R s m args below meth c H locs cells slots Q (F0 m pc ls (.int 3 :: .int 6 :: rest)) := by
  obtain ⟨hx, hb, -, hown, hts, ⟨hK, hE⟩, -, -⟩ := X
  obtain ⟨⟨L, hn, hL, hP, hD, hcl⟩, hS, hN0⟩ := hW
  refine zv_step hx hb hown (hts _ hw) hE.2.2.2.2.2 (hts _ ha) hdg hcells hslots (fun cA b H1 hcA hcb hz ho hrw hold => ?_)
  have e5 : Y.2 5 = cA := Option.some.inj (((hK.2 5 _ rfl).2 : s.vm.findClass ("[" ++ (FieldType.array .int).toString) = some (Y.2 5)).symm.trans hcA)
  have e0 : Y.2 0 = b := Option.some.inj (((hK.2 0 _ rfl).2 : s.vm.findClass ("[" ++ (FieldType.int).toString) = some (Y.2 0)).symm.trans hcb)
  have hHN : N0 ≤ H.size := Nat.le_trans hN0 hS.1
  have hb0 : zv_b sh ad H.size (H.size + 1) := fun r' hr' => by
    obtain ⟨k, hk⟩ := List.getElem?_of_mem ((hL r').mpr hr')
    have hk2 : (L.map (zw_F Y ad sh g))[k]? = some (zw_F Y ad sh g r') := by rw [List.getElem?_map, hk]; rfl
    have := (hP k _ hk2).lt
    have hlt : ad r' < H.size := this
    omega
  have k0 : zw_ok Y N0 ad sh g H1 := ⟨L, hn, hL, hP.kept (fun k x hx9 => hold x.1 ((hP k x hx9).lt)), hD, hcl⟩
  have hrow : ∀ (ad : Nat → Nat) (j : Nat), j < 6 → va_at Y.1 zw_cls (H.size + 1 + j, zw_ce Y.2 ad (fun _ => 0) (.inr (0, 3, none))) H1 := fun ad j hj => by
    show H1[H.size + 1 + j]? = some (arrV (Y.2 0) 3 (fun _ => .int 0))
    rw [e0]; exact hrw j hj
  have hno : ∀ r' : Nat, ¬ zw_re (.inr (0, 3, none)) r' := fun r' h => h
  have k1 := zw_add (r := rb) (q := H.size + 1 + 0) (e' := .inr (0, 3, none)) (x' := fun _ => 0) k0 (h1 0 (by omega)) (fun r' q => absurd q (hno r')) (hrow _ 0 (by omega)) (by omega) (fun r' q => by have := hb0 r' q; omega)
  have b1 := zv_bs (r := rb) (e' := .inr (0, 3, none)) hb0 (by omega)
  have k2 := zw_add (r := rb + 1) (q := H.size + 1 + 1) (e' := .inr (0, 3, none)) (x' := fun _ => 0) k1 (by rw [va_up_ne _ _ (by omega)]; exact h1 1 (by omega)) (fun r' q => absurd q (hno r')) (hrow _ 1 (by omega)) (by omega) (fun r' q => by have := b1 r' q; exact Nat.ne_of_lt this.1)
  have b2 := zv_bs (r := rb + 1) (e' := .inr (0, 3, none)) b1 (by omega)
  have k3 := zw_add (r := rb + 2) (q := H.size + 1 + 2) (e' := .inr (0, 3, none)) (x' := fun _ => 0) k2 (by rw [va_up_ne _ _ (by omega), va_up_ne _ _ (by omega)]; exact h1 2 (by omega)) (fun r' q => absurd q (hno r')) (hrow _ 2 (by omega)) (by omega) (fun r' q => by have := b2 r' q; exact Nat.ne_of_lt this.1)
  have b3 := zv_bs (r := rb + 2) (e' := .inr (0, 3, none)) b2 (by omega)
  have k4 := zw_add (r := rb + 3) (q := H.size + 1 + 3) (e' := .inr (0, 3, none)) (x' := fun _ => 0) k3 (by rw [va_up_ne _ _ (by omega), va_up_ne _ _ (by omega), va_up_ne _ _ (by omega)]; exact h1 3 (by omega)) (fun r' q => absurd q (hno r')) (hrow _ 3 (by omega)) (by omega) (fun r' q => by have := b3 r' q; exact Nat.ne_of_lt this.1)
  have b4 := zv_bs (r := rb + 3) (e' := .inr (0, 3, none)) b3 (by omega)
  have k5 := zw_add (r := rb + 4) (q := H.size + 1 + 4) (e' := .inr (0, 3, none)) (x' := fun _ => 0) k4 (by rw [va_up_ne _ _ (by omega), va_up_ne _ _ (by omega), va_up_ne _ _ (by omega), va_up_ne _ _ (by omega)]; exact h1 4 (by omega)) (fun r' q => absurd q (hno r')) (hrow _ 4 (by omega)) (by omega) (fun r' q => by have := b4 r' q; exact Nat.ne_of_lt this.1)
  have b5 := zv_bs (r := rb + 4) (e' := .inr (0, 3, none)) b4 (by omega)
  have k6 := zw_add (r := rb + 5) (q := H.size + 1 + 5) (e' := .inr (0, 3, none)) (x' := fun _ => 0) k5 (by rw [va_up_ne _ _ (by omega), va_up_ne _ _ (by omega), va_up_ne _ _ (by omega), va_up_ne _ _ (by omega), va_up_ne _ _ (by omega)]; exact h1 5 (by omega)) (fun r' q => absurd q (hno r')) (hrow _ 5 (by omega)) (by omega) (fun r' q => by have := b5 r' q; exact Nat.ne_of_lt this.1)
  have b6 := zv_bs (r := rb + 5) (e' := .inr (0, 3, none)) b5 (by omega)
  have hadr : ∀ j : Nat, j < 6 → va_up (va_up (va_up (va_up (va_up (va_up ad rb (H.size + 1)) (rb + 1) (H.size + 1 + 1)) (rb + 2) (H.size + 1 + 2)) (rb + 3) (H.size + 1 + 3)) (rb + 4) (H.size + 1 + 4)) (rb + 5) (H.size + 1 + 5) (rb + j) = H.size + 1 + j := fun j hj => by
    obtain rfl | rfl | rfl | rfl | rfl | rfl : j = 0 ∨ j = 1 ∨ j = 2 ∨ j = 3 ∨ j = 4 ∨ j = 5 := by omega
    all_goals simp [va_up]
  have hsr : ∀ j : Nat, j < 6 → va_up (va_up (va_up (va_up (va_up (va_up sh rb (some (.inr (0, 3, none)))) (rb + 1) (some (.inr (0, 3, none)))) (rb + 2) (some (.inr (0, 3, none)))) (rb + 3) (some (.inr (0, 3, none)))) (rb + 4) (some (.inr (0, 3, none)))) (rb + 5) (some (.inr (0, 3, none))) (rb + j) ≠ none := fun j hj => by
    obtain rfl | rfl | rfl | rfl | rfl | rfl : j = 0 ∨ j = 1 ∨ j = 2 ∨ j = 3 ∨ j = 4 ∨ j = 5 := by omega
    all_goals simp [va_up]
  have k7 := zw_add (r := r) (q := H.size) (e' := .inr (5, 6, some (fun i => if i < 6 then some (rb + i) else none))) (x' := fun _ => 0) k6 (by
      have q0 := hr 0 (by omega); have q1 := hr 1 (by omega); have q2 := hr 2 (by omega); have q3 := hr 3 (by omega); have q4 := hr 4 (by omega); have q5 := hr 5 (by omega)
      rw [va_up_ne _ _ q5, va_up_ne _ _ q4, va_up_ne _ _ q3, va_up_ne _ _ q2, va_up_ne _ _ q1, va_up_ne _ _ (by omega)]; exact h0) (fun r' q => by
      obtain ⟨i, hi⟩ := q
      have hi : (if i < 6 then some (rb + i) else none) = some r' := hi
      by_cases h6 : i < 6
      · rw [if_pos h6] at hi; cases hi; exact hsr i h6
      · rw [if_neg h6] at hi; cases hi) (by
      show H1[H.size]? = some (arrV (Y.2 5) 6 (fun j => va_rf ((if j < 6 then some (rb + j) else none).map _)))
      rw [ho, e5]
      unfold zv_c
      refine congrArg (fun z => some (arrV cA 6 z)) (funext fun j => congrArg va_rf ?_)
      by_cases h6 : j < 6
      · rw [if_pos h6, if_pos h6]; exact congrArg some (hadr j h6).symm
      · rw [if_neg h6, if_neg h6]; rfl) hHN (fun r' q => (b6 r' q).2)
  have hS1 : va_S (fun q => N0 ≤ q) s.heap H1 locs := ⟨by have := hS.1; omega, fun q hq hA => by rw [hold q (Nat.lt_of_lt_of_le hq hS.1)]; exact hS.2.1 q hq hA, hS.2.2⟩
  have hk := kk _ H1 (fun r' q1 q2 => by
    rw [va_up_ne _ _ q1, va_up_ne _ _ (by omega), va_up_ne _ _ (by omega), va_up_ne _ _ (by omega), va_up_ne _ _ (by omega), va_up_ne _ _ (by omega), va_up_ne _ _ (by omega)]) ⟨k7, hS1, hN0⟩
  rwa [va_up_self] at hk
end ZVW
