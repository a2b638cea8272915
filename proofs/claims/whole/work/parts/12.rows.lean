/-! the rows of the worlds by roles -/
/-- what a walk stands on -/
def zw_X (p : Program) (m : MethodId) (meth : Method) (c : Code) (cc : ByteArray) (nL : Nat) (ret : Option FieldType) (s : State) (args : Array Value) (own : String) (Y : zw_Y) : Prop :=
  p.tables.exec = Jvm.exec ∧ c.code = cc ∧ c.maxLocals = nL ∧ s.vm.findClass own = some m.cls ∧ (∀ w ∈ zt_good, w.before args s = true) ∧ zw_K Y s ∧ meth.sig.returnType = ret ∧ meth.locks = false
/-- a class of the world, with what the tables say of its fields -/
def zw_CS (ci : Nat) (C : String) (T : u_T) (N : Nat) (ty0 : Nat → FieldType) : Prop :=
  zw_cls[ci]? = some (C, T, N) ∧ (∀ w ∈ u_ws C T N, w ∈ zt_good) ∧ (∀ k, k < N → parseFieldDescriptor (T k).2.2.1 = some (ty0 k)) ∧ (∀ a, a < N → ∀ b, b < N → a ≠ b → (T a).2.1 ≠ (T b).2.1)
/-- a field's place in the code: the class 'own' names by 'index' the field k of the class ci; mode 1: it may be written, 2: it is final and the class's own -/
def zw_FS (own : String) (index ci k mode : Nat) (ty : FieldType) : Prop :=
  ∃ (C : String) (T : u_T) (N : Nat) (ty0 : Nat → FieldType) (ref : String), zw_CS ci C T N ty0 ∧ k < N ∧ ty0 k = ty ∧ (mode = 1 → (T k).2.2.2 = false) ∧ Cond.fieldLink own index ref (T k).2.1 (T k).2.2.1 ∈ zt_good ∧ (ref = (T k).1 ∨ Cond.sameField ref (T k).1 (T k).2.1 (T k).2.2.1 ∈ zt_good) ∧ (mode = 2 → (T k).2.2.2 = true ∧ (T k).1 = own)
section ZR
variable {p : Program} {l : Launch} {e : Env} {R : Room} {s : State} {m : MethodId} {args : Array Value} {below : List Frame} {meth : Method} {c : Code} {H : Heap} {locs : List Loc} {cells slots : Nat} {Q : State → Prop}
variable {cc : ByteArray} {pc nL : Nat} {ret : Option FieldType} {ls : Array Slot} {rest : List Value} {Y : zw_Y} {N0 : Nat} {ad : Nat → Nat} {sh : Nat → Option zw_Sh} {g : Nat → Nat → Int32} {own : String}
theorem zw_same {ref C n d : String} (hts : ∀ w ∈ zt_good, w.before args s = true) (h : ref = C ∨ Cond.sameField ref C n d ∈ zt_good) : ∀ x, s.fieldFound? C n d = some x → s.fieldFound? ref n d = some x := by
  intro x hx
  rcases h with rfl | h
  · exact hx
  · exact u_same (hts _ h) x hx
theorem zr_get (X : zw_X p m meth c cc nL ret s args own Y) (hW : zw_St Y N0 ad sh g s H locs) {index ci fn mode : Nat} {ty : FieldType} (F : zw_FS own index ci fn mode ty) (hdg : decode cc pc = .ok (.getfield index, 3)) {r : Nat} {ss : List (Option (Option Nat))} (h : sh r = some (.inl (ci, ss))) {a : Nat} (ha : ad r = a) {t : Option (Option Nat)} (ht : ss[fn]? = some t) {v : Value} (hv : zw_vl ad (g r fn) t = v)
    (kk : W p l e R s m args below meth c H locs cells slots Q (F0 m (pc + 3) ls (v :: rest))) : W p l e R s m args below meth c H locs cells slots Q (F0 m pc ls (.ref a :: rest)) := by
  subst ha
  obtain ⟨hx, hb, -, hown, hts, ⟨hK, hE⟩, -, -⟩ := X
  obtain ⟨⟨L, hn, hL, hP, hD, hcl⟩, hS, h0⟩ := hW
  obtain ⟨q, hq1, hq2⟩ := zw_at (Y := Y) (ad := ad) (g := g) hL h
  obtain ⟨C, T, N, ty0, ref, ⟨f1, f3, f4, f5⟩, f2, f6, f7, f8, f9, f10⟩ := F
  refine va_get hx hb hts f3 hown hK hP q hq2 f1 fn f2 (hts _ f8) (zw_same hts f9) (v := v) ?_ hdg kk
  show (zw_fs ad (g r) 0 ss)[fn]? = some v
  rw [zw_fs_at, ht, Nat.zero_add]
  exact congrArg some hv
theorem zr_puti (X : zw_X p m meth c cc nL ret s args own Y) (hW : zw_St Y N0 ad sh g s H locs) {index ci fn : Nat} {ty : FieldType} (F : zw_FS own index ci fn 1 ty) (hdg : decode cc pc = .ok (.putfield index, 3)) {r : Nat} {ss : List (Option (Option Nat))} (h : sh r = some (.inl (ci, ss))) {a : Nat} (ha : ad r = a) (ht : ss[fn]? = some none) {x : Int32} (hnr : narrow ty (.int x) = .int x) (hfi : fits ty (.int x) = true)
    (kk : ∀ (H1 : Heap) (locs1 : List Loc), zw_St Y N0 ad sh (va_up g r (upd (g r) fn x)) s H1 locs1 → W p l e R s m args below meth c H1 locs1 cells slots Q (F0 m (pc + 3) ls rest)) : W p l e R s m args below meth c H locs cells slots Q (F0 m pc ls (.int x :: .ref a :: rest)) := by
  subst ha
  obtain ⟨hx, hb, -, hown, hts, ⟨hK, hE⟩, -, -⟩ := X
  obtain ⟨⟨L, hn, hL, hP, hD, hcl⟩, hS, h0⟩ := hW
  obtain ⟨q, hq1, hq2⟩ := zw_at (Y := Y) (ad := ad) (g := g) hL h
  obtain ⟨C, T, N, ty0, ref, ⟨f1, f3, f4, f5⟩, f2, f6, f7, f8, f9, f10⟩ := F
  have hfl : fn < (zw_fs ad (g r) 0 ss).length := by rw [zw_fs_len]; exact (List.getElem?_eq_some_iff.mp ht).1
  refine va_put hx hb hts f3 ty0 f4 f5 hown hK hP hD hS q hq2 f1 fn f2 (hts _ f8) (zw_same hts f9) (f7 rfl) (by rw [← f6]; exact f4 fn f2) hnr hfi hfl hdg (fun H1 locs1 hP1 hD1 hS1 => kk H1 locs1 ⟨?_, hS1, h0⟩)
  rw [zw_fs_seti _ _ _ _ _ ht] at hP1 hD1
  have := zw_stored (e' := .inl (ci, ss)) hn hL hcl h hq1 (hcl r _ h) hP1 hD1
  rwa [zw_up_same h] at this
theorem zr_putr (X : zw_X p m meth c cc nL ret s args own Y) (hW : zw_St Y N0 ad sh g s H locs) {index ci fn mode : Nat} {ty : FieldType} (F : zw_FS own index ci fn mode ty) (hdg : decode cc pc = .ok (.putfield index, 3)) (hmd : mode = 1 ∨ (mode = 2 ∧ meth.name = "<init>")) {r r2 : Nat} {ss : List (Option (Option Nat))} (h : sh r = some (.inl (ci, ss))) {a : Nat} (ha : ad r = a) (hfl : fn < ss.length) (hr2 : sh r2 ≠ none) {a2 : Nat} (ha2 : ad r2 = a2) (hnr : ∀ a : Nat, narrow ty (.ref a) = .ref a ∧ fits ty (.ref a) = true)
    (kk : ∀ (H1 : Heap) (locs1 : List Loc), zw_St Y N0 ad (va_up sh r (some (.inl (ci, ss.set fn (some (some r2)))))) g s H1 locs1 → W p l e R s m args below meth c H1 locs1 cells slots Q (F0 m (pc + 3) ls rest)) : W p l e R s m args below meth c H locs cells slots Q (F0 m pc ls (.ref a2 :: .ref a :: rest)) := by
  subst ha
  subst ha2
  obtain ⟨hx, hb, -, hown, hts, ⟨hK, hE⟩, -, -⟩ := X
  obtain ⟨⟨L, hn, hL, hP, hD, hcl⟩, hS, h0⟩ := hW
  obtain ⟨q, hq1, hq2⟩ := zw_at (Y := Y) (ad := ad) (g := g) hL h
  obtain ⟨C, T, N, ty0, ref, ⟨f1, f3, f4, f5⟩, f2, f6, f7, f8, f9, f10⟩ := F
  have hfl2 : fn < (zw_fs ad (g r) 0 ss).length := by rw [zw_fs_len]; exact hfl
  have hend : ∀ (H1 : Heap) (locs1 : List Loc), va_P Y.1 zw_cls ((L.map (zw_F Y ad sh g)).set q (ad r, .inr (ci, (zw_fs ad (g r) 0 ss).set fn (.ref (ad r2))))) H1 → va_D (fun q => N0 ≤ q) ((L.map (zw_F Y ad sh g)).set q (ad r, .inr (ci, (zw_fs ad (g r) 0 ss).set fn (.ref (ad r2))))) → va_S (fun q => N0 ≤ q) s.heap H1 locs1 → W p l e R s m args below meth c H1 locs1 cells slots Q (F0 m (pc + 3) ls rest) := by
    intro H1 locs1 hP1 hD1 hS1
    refine kk H1 locs1 ⟨?_, hS1, h0⟩
    rw [zw_fs_setr _ _ _ _ _ hfl] at hP1 hD1
    have := zw_stored (e' := .inl (ci, ss.set fn (some (some r2)))) (x' := g r) hn hL hcl h hq1 (fun r' hr' => ?_) hP1 hD1
    · rwa [zw_up_same (f := g) rfl] at this
    · rcases List.mem_or_eq_of_mem_set hr' with h1 | h1
      · exact hcl r _ h r' h1
      · cases h1; exact hr2
  rcases hmd with rfl | ⟨rfl, hin⟩
  · exact va_put hx hb hts f3 ty0 f4 f5 hown hK hP hD hS q hq2 f1 fn f2 (hts _ f8) (zw_same hts f9) (f7 rfl) (by rw [← f6]; exact f4 fn f2) (hnr _).1 (hnr _).2 hfl2 hdg hend
  · exact va_putF hx hb hts f3 ty0 f4 f5 hown hK hP hD hS q hq2 f1 fn f2 (hts _ f8) (zw_same hts f9) (f10 rfl).1 hin (f10 rfl).2 (by rw [← f6]; exact f4 fn f2) (hnr _).1 (hnr _).2 hfl2 hdg hend
theorem zr_putF (X : zw_X p m meth c cc nL ret s args own Y) (hW : zw_St Y N0 ad sh g s H locs) {index ci fn : Nat} {ty : FieldType} (F : zw_FS own index ci fn 2 ty) (hdg : decode cc pc = .ok (.putfield index, 3)) (hin : meth.name = "<init>") {r : Nat} {ss : List (Option (Option Nat))} (h : sh r = some (.inl (ci, ss))) {a : Nat} (ha : ad r = a) (ht : ss[fn]? = some none) {x : Int32} (hnr : narrow ty (.int x) = .int x) (hfi : fits ty (.int x) = true)
    (kk : ∀ (H1 : Heap) (locs1 : List Loc), zw_St Y N0 ad sh (va_up g r (upd (g r) fn x)) s H1 locs1 → W p l e R s m args below meth c H1 locs1 cells slots Q (F0 m (pc + 3) ls rest)) : W p l e R s m args below meth c H locs cells slots Q (F0 m pc ls (.int x :: .ref a :: rest)) := by
  subst ha
  obtain ⟨hx, hb, -, hown, hts, ⟨hK, hE⟩, -, -⟩ := X
  obtain ⟨⟨L, hn, hL, hP, hD, hcl⟩, hS, h0⟩ := hW
  obtain ⟨q, hq1, hq2⟩ := zw_at (Y := Y) (ad := ad) (g := g) hL h
  obtain ⟨C, T, N, ty0, ref, ⟨f1, f3, f4, f5⟩, f2, f6, f7, f8, f9, f10⟩ := F
  have hfl : fn < (zw_fs ad (g r) 0 ss).length := by rw [zw_fs_len]; exact (List.getElem?_eq_some_iff.mp ht).1
  refine va_putF hx hb hts f3 ty0 f4 f5 hown hK hP hD hS q hq2 f1 fn f2 (hts _ f8) (zw_same hts f9) (f10 rfl).1 hin (f10 rfl).2 (by rw [← f6]; exact f4 fn f2) hnr hfi hfl hdg (fun H1 locs1 hP1 hD1 hS1 => kk H1 locs1 ⟨?_, hS1, h0⟩)
  rw [zw_fs_seti _ _ _ _ _ ht] at hP1 hD1
  have := zw_stored (e' := .inl (ci, ss)) hn hL hcl h hq1 (hcl r _ h) hP1 hD1
  rwa [zw_up_same h] at this
theorem zr_iald (X : zw_X p m meth c cc nL ret s args own Y) (hW : zw_St Y N0 ad sh g s H locs) (hdg : decode cc pc = .ok (.iaload, 1)) {r ti n : Nat} (h : sh r = some (.inr (ti, n, none))) {a : Nat} (ha : ad r = a) (ht : (zw_tys Y.2)[ti]? = some (Y.2 ti, .int)) {i : Int32} (hin : vp_in i n) {v : Int32} (hv : g r i.toNatClampNeg = v)
    (kk : W p l e R s m args below meth c H locs cells slots Q (F0 m (pc + 1) ls (.int v :: rest))) : W p l e R s m args below meth c H locs cells slots Q (F0 m pc ls (.int i :: .ref a :: rest)) := by
  subst ha
  subst hv
  obtain ⟨hx, hb, -, hown, hts, ⟨hK, hE⟩, -, -⟩ := X
  obtain ⟨⟨L, hn, hL, hP, hD, hcl⟩, hS, h0⟩ := hW
  obtain ⟨q, hq1, hq2⟩ := zw_at (Y := Y) (ad := ad) (g := g) hL h
  exact va_iald hx hb hK hP q ti hq2 ht hin hdg kk
theorem zr_zald (X : zw_X p m meth c cc nL ret s args own Y) (hW : zw_St Y N0 ad sh g s H locs) (hdg : decode cc pc = .ok (.baload, 1)) {r ti n : Nat} (h : sh r = some (.inr (ti, n, none))) {a : Nat} (ha : ad r = a) (ht : (zw_tys Y.2)[ti]? = some (Y.2 ti, .boolean)) {i : Int32} (hin : vp_in i n) {v : Int32} (hv : g r i.toNatClampNeg = v)
    (kk : W p l e R s m args below meth c H locs cells slots Q (F0 m (pc + 1) ls (.int v :: rest))) : W p l e R s m args below meth c H locs cells slots Q (F0 m pc ls (.int i :: .ref a :: rest)) := by
  subst ha
  subst hv
  obtain ⟨hx, hb, -, hown, hts, ⟨hK, hE⟩, -, -⟩ := X
  obtain ⟨⟨L, hn, hL, hP, hD, hcl⟩, hS, h0⟩ := hW
  obtain ⟨q, hq1, hq2⟩ := zw_at (Y := Y) (ad := ad) (g := g) hL h
  exact va_zald hx hb hK hP q ti hq2 ht hin hdg kk
theorem zr_iast (X : zw_X p m meth c cc nL ret s args own Y) (hW : zw_St Y N0 ad sh g s H locs) (hdg : decode cc pc = .ok (.iastore, 1)) {r ti n : Nat} (h : sh r = some (.inr (ti, n, none))) {a : Nat} (ha : ad r = a) (ht : (zw_tys Y.2)[ti]? = some (Y.2 ti, .int)) {i x : Int32} (hin : vp_in i n)
    (kk : ∀ (H1 : Heap) (locs1 : List Loc), zw_St Y N0 ad sh (va_up g r (upd (g r) i.toNatClampNeg x)) s H1 locs1 → W p l e R s m args below meth c H1 locs1 cells slots Q (F0 m (pc + 1) ls rest)) : W p l e R s m args below meth c H locs cells slots Q (F0 m pc ls (.int x :: .int i :: .ref a :: rest)) := by
  subst ha
  obtain ⟨hx, hb, -, hown, hts, ⟨hK, hE⟩, -, -⟩ := X
  obtain ⟨⟨L, hn, hL, hP, hD, hcl⟩, hS, h0⟩ := hW
  obtain ⟨q, hq1, hq2⟩ := zw_at (Y := Y) (ad := ad) (g := g) hL h
  refine va_iast hx hb hK hP hD hS q ti hq2 ht hin hdg (fun H1 locs1 hP1 hD1 hS1 => kk H1 locs1 ⟨?_, hS1, h0⟩)
  have := zw_stored (e' := .inr (ti, n, none)) hn hL hcl h hq1 (hcl r _ h) hP1 hD1
  rwa [zw_up_same h] at this
theorem zr_zast (X : zw_X p m meth c cc nL ret s args own Y) (hW : zw_St Y N0 ad sh g s H locs) (hdg : decode cc pc = .ok (.bastore, 1)) {r ti n : Nat} (h : sh r = some (.inr (ti, n, none))) {a : Nat} (ha : ad r = a) (ht : (zw_tys Y.2)[ti]? = some (Y.2 ti, .boolean)) {i x : Int32} (hin : vp_in i n) (hnar : vp_nar .boolean x = x)
    (kk : ∀ (H1 : Heap) (locs1 : List Loc), zw_St Y N0 ad sh (va_up g r (upd (g r) i.toNatClampNeg x)) s H1 locs1 → W p l e R s m args below meth c H1 locs1 cells slots Q (F0 m (pc + 1) ls rest)) : W p l e R s m args below meth c H locs cells slots Q (F0 m pc ls (.int x :: .int i :: .ref a :: rest)) := by
  subst ha
  obtain ⟨hx, hb, -, hown, hts, ⟨hK, hE⟩, -, -⟩ := X
  obtain ⟨⟨L, hn, hL, hP, hD, hcl⟩, hS, h0⟩ := hW
  obtain ⟨q, hq1, hq2⟩ := zw_at (Y := Y) (ad := ad) (g := g) hL h
  refine va_zast hx hb hK hP hD hS q ti hq2 ht hin hdg (fun H1 locs1 hP1 hD1 hS1 => kk H1 locs1 ⟨?_, hS1, h0⟩)
  rw [hnar] at hP1 hD1
  have := zw_stored (e' := .inr (ti, n, none)) hn hL hcl h hq1 (hcl r _ h) hP1 hD1
  rwa [zw_up_same h] at this
theorem zr_alen (X : zw_X p m meth c cc nL ret s args own Y) (hW : zw_St Y N0 ad sh g s H locs) (hdg : decode cc pc = .ok (.arraylength, 1)) {r ti n : Nat} {f : Option (Nat → Option Nat)} (h : sh r = some (.inr (ti, n, f))) {a : Nat} (ha : ad r = a) {ty : FieldType} (ht : (zw_tys Y.2)[ti]? = some (Y.2 ti, ty)) {v : Int32} (hv : Int32.ofNat n = v)
    (kk : W p l e R s m args below meth c H locs cells slots Q (F0 m (pc + 1) ls (.int v :: rest))) : W p l e R s m args below meth c H locs cells slots Q (F0 m pc ls (.ref a :: rest)) := by
  subst ha
  obtain ⟨hx, hb, -, hown, hts, ⟨hK, hE⟩, -, -⟩ := X
  obtain ⟨⟨L, hn, hL, hP, hD, hcl⟩, hS, h0⟩ := hW
  obtain ⟨q, hq1, hq2⟩ := zw_at (Y := Y) (ad := ad) (g := g) hL h
  cases f with
  | none => exact va_alen (x := (n, .inl (g r))) hx hb hK hP q ti hq2 ht hv hdg kk
  | some f => exact va_alen (x := (n, .inr (.inr (.inr (.inr (fun i => (f i).map ad)))))) hx hb hK hP q ti hq2 ht hv hdg kk
/-- a place of an array of references (of objects, or of arrays) is read -/
theorem zr_aald (X : zw_X p m meth c cc nL ret s args own Y) (hW : zw_St Y N0 ad sh g s H locs) (hdg : decode cc pc = .ok (.aaload, 1)) {r ti n : Nat} {f : Nat → Option Nat} (h : sh r = some (.inr (ti, n, some f))) {a : Nat} (ha : ad r = a) {ty : FieldType} (ht : (zw_tys Y.2)[ti]? = some (Y.2 ti, ty)) (hty : ty.isReference = true) {i : Int32} (hin : vp_in i n) {v : Value} (hv : va_rf ((f i.toNatClampNeg).map ad) = v)
    (kk : W p l e R s m args below meth c H locs cells slots Q (F0 m (pc + 1) ls (v :: rest))) : W p l e R s m args below meth c H locs cells slots Q (F0 m pc ls (.int i :: .ref a :: rest)) := by
  subst ha
  obtain ⟨hx, hb, -, hown, hts, ⟨hK, hE⟩, -, -⟩ := X
  obtain ⟨⟨L, hn, hL, hP, hD, hcl⟩, hS, h0⟩ := hW
  obtain ⟨q, hq1, hq2⟩ := zw_at (Y := Y) (ad := ad) (g := g) hL h
  have hlt : i.toNatClampNeg < n := Nat.not_le.mp fun q => hin (Or.inr q)
  exact W.aald (v := v) (ty := ty) hx hb (hP q _ hq2) ((hK.2 ti _ ht).1 n (fun j => va_rf ((f j).map ad))) hty (fun q => by cases q) (by show ¬ (i < 0 ∨ (arrV _ _ _).slots.size ≤ _); rw [arrV_size]; exact hin) (by show (arrV _ _ _).slots[_]? = _; rw [arrV_read _ _ hlt, hv]) rfl rfl hdg kk
/-- a reference to an object of the class C2 goes into an array of references to the class E -/
theorem zr_aast (X : zw_X p m meth c cc nL ret s args own Y) (hW : zw_St Y N0 ad sh g s H locs) (hdg : decode cc pc = .ok (.aastore, 1)) {r r2 ti n ci : Nat} {f : Nat → Option Nat} {ss : List (Option (Option Nat))} {E : String} {q2 : vw_C} (h : sh r = some (.inr (ti, n, some f))) {a : Nat} (ha : ad r = a) (ht : (zw_tys Y.2)[ti]? = some (Y.2 ti, .object E)) (h2 : sh r2 = some (.inl (ci, ss))) {a2 : Nat} (ha2 : ad r2 = a2) (hc : zw_cls[ci]? = some q2) (hca : q2.1 = E ∨ (q2.1, E) ∈ zt_cast) {i : Int32} (hin : vp_in i n)
    (kk : ∀ (H1 : Heap) (locs1 : List Loc), zw_St Y N0 ad (va_up sh r (some (.inr (ti, n, some (va_up f i.toNatClampNeg (some r2)))))) g s H1 locs1 → W p l e R s m args below meth c H1 locs1 cells slots Q (F0 m (pc + 1) ls rest)) : W p l e R s m args below meth c H locs cells slots Q (F0 m pc ls (.ref a2 :: .int i :: .ref a :: rest)) := by
  subst ha
  subst ha2
  obtain ⟨hx, hb, -, hown, hts, ⟨hK, hE⟩, -, -⟩ := X
  obtain ⟨⟨L, hn, hL, hP, hD, hcl⟩, hS, h0⟩ := hW
  obtain ⟨q, hq1, hq2⟩ := zw_at (Y := Y) (ad := ad) (g := g) hL h
  obtain ⟨k2, hk1, hk2⟩ := zw_at (Y := Y) (ad := ad) (g := g) hL h2
  have hfun : (va_up (fun i => (f i).map ad) i.toNatClampNeg (some (ad r2))) = fun j => ((va_up f i.toNatClampNeg (some r2)) j).map ad := by
    funext j
    by_cases hj : j = i.toNatClampNeg
    · subst hj; simp [va_up]
    · simp [va_up, hj]
  have hend : ∀ (H1 : Heap) (locs1 : List Loc), va_P Y.1 zw_cls ((L.map (zw_F Y ad sh g)).set q (ad r, .inl (Y.2 ti, n, .inr (.inr (.inr (.inr (va_up (fun i => (f i).map ad) i.toNatClampNeg (some (ad r2))))))))) H1 → va_D (fun q => N0 ≤ q) ((L.map (zw_F Y ad sh g)).set q (ad r, .inl (Y.2 ti, n, .inr (.inr (.inr (.inr (va_up (fun i => (f i).map ad) i.toNatClampNeg (some (ad r2))))))))) → va_S (fun q => N0 ≤ q) s.heap H1 locs1 → W p l e R s m args below meth c H1 locs1 cells slots Q (F0 m (pc + 1) ls rest) := by
    intro H1 locs1 hP1 hD1 hS1
    rw [hfun] at hP1 hD1
    refine kk H1 locs1 ⟨?_, hS1, h0⟩
    have := zw_stored (e' := .inr (ti, n, some (va_up f i.toNatClampNeg (some r2)))) (x' := g r) hn hL hcl h hq1 (fun r' hr' => ?_) hP1 hD1
    · rwa [zw_up_same (f := g) rfl] at this
    · obtain ⟨j, hj⟩ := hr'
      by_cases hji : j = i.toNatClampNeg
      · subst hji
        rw [va_up_self] at hj
        cases hj
        rw [h2]; simp
      · rw [va_up_ne _ _ hji] at hj
        exact hcl r _ h r' ⟨j, hj⟩
  rcases hca with rfl | hca
  · exact va_astq hx hb hK hP hD hS q ti k2 ci hq2 ht hk2 hc hin hdg hend
  · exact va_astqO hx hb hK hP hD hS q ti k2 ci hq2 ht (hE.1 _ hca) hk2 hc hin hdg hend

/-- an object is made: its role was free -/
theorem zr_new (X : zw_X p m meth c cc nL ret s args own Y) (hW : zw_St Y N0 ad sh g s H locs) {index ci : Nat} {C : String} {T : u_T} {N : Nat} {ty0 : Nat → FieldType} {ss : List (Option (Option Nat))} (F : zw_CS ci C T N ty0) (hw : Cond.classLink own index C ∈ zt_good ∧ Cond.instantiable C N ∈ zt_good ∧ Cond.initialized C ∈ zt_good) (hdg : decode cc pc = .ok (.new index, 3)) (hss : ∀ (ad : Nat → Nat) (j : Nat), j < N → defaultValue (ty0 j) = vp_V (zw_fs ad (fun _ => 0) 0 ss) j) (hre : ∀ r : Nat, some (some r) ∉ ss) (r : Nat) (h : sh r = none) (hcells : cells + 1 ≤ R.cells) (hslots : slots + N ≤ R.slots)
    (kk : ∀ (ad' : Nat → Nat) (H1 : Heap), (∀ r', r' ≠ r → ad' r' = ad r') → zw_St Y N0 ad' (va_up sh r (some (.inl (ci, ss)))) (va_up g r (fun _ => 0)) s H1 locs → W p l e R s m args below meth c H1 locs (cells + 1) (slots + N) Q (F0 m (pc + 3) ls (.ref (ad' r) :: rest))) : W p l e R s m args below meth c H locs cells slots Q (F0 m pc ls rest) := by
  obtain ⟨hx, hb, -, hown, hts, ⟨hK, hE⟩, -, -⟩ := X
  obtain ⟨⟨L, hn, hL, hP, hD, hcl⟩, hS, h0⟩ := hW
  obtain ⟨f1, f3, f4, f5⟩ := F
  refine va_new (ci := ci) (fs := zw_fs ad (fun _ => 0) 0 ss) hx hb hts f3 ty0 f4 hown (hts _ hw.1) (hts _ hw.2.1) (hts _ hw.2.2) hK hP hD hS (fun q hq => Nat.le_trans h0 hq) f1 (hss ad) hcells hslots hdg (fun q H1 hP1 hD1 hS1 => ?_)
  have hk := kk (va_up ad r q) H1 (fun r' hr' => va_up_ne _ _ hr') ⟨zw_made (e' := .inl (ci, ss)) hn hL hcl h (fun r' hr' => hre r' hr') hP1 hD1, hS1, h0⟩
  rwa [va_up_self] at hk
theorem zw_dA {Y : zw_Y} {tys : List (ClassId × FieldType)} {cA : ClassId} {ty : FieldType} (hK : va_K Y.1 zw_cls (zw_tys Y.2) s) (hK1 : va_K Y.1 zw_cls (tys ++ [(cA, ty)]) s) {ti : Nat} (ht : (zw_tys Y.2)[ti]? = some (Y.2 ti, ty)) : cA = Y.2 ti := by
  have h1 := (hK.2 ti _ ht).2
  have h2 := (hK1.2 tys.length (cA, ty) (by simp)).2
  cases ty with
  | object C =>
    obtain ⟨kA, comp, a1, a2, a3, a4⟩ := h1
    obtain ⟨kB, comp2, b1, b2, b3, b4⟩ := h2
    exact Option.some.inj (b4.symm.trans a4)
  | _ => exact Option.some.inj (h2.symm.trans h1)
theorem zr_newa (X : zw_X p m meth c cc nL ret s args own Y) (hW : zw_St Y N0 ad sh g s H locs) {atype : ArrayType} {ty : FieldType} (hw : Cond.arrayClass (newarray.typeOf atype) ∈ zt_good) (hty : newarray.typeOf atype = ty) (hdf : defaultValue ty = .int 0) {ti : Nat} (ht : (zw_tys Y.2)[ti]? = some (Y.2 ti, ty)) (hdg : decode cc pc = .ok (.newarray atype, 2)) (r : Nat) (h : sh r = none) {n : Int32} {N' : Nat} (hn0 : ¬ n < 0) (hN : n.toNatClampNeg = N') (hbytes : N' * componentBytes ty ≤ 536870912) (hcells : cells + 1 ≤ R.cells) (hslots : slots + N' ≤ R.slots)
    (kk : ∀ (ad' : Nat → Nat) (H1 : Heap), (∀ r', r' ≠ r → ad' r' = ad r') → zw_St Y N0 ad' (va_up sh r (some (.inr (ti, N', none)))) (va_up g r (fun _ => 0)) s H1 locs → W p l e R s m args below meth c H1 locs (cells + 1) (slots + N') Q (F0 m (pc + 2) ls (.ref (ad' r) :: rest))) : W p l e R s m args below meth c H locs cells slots Q (F0 m pc ls (.int n :: rest)) := by
  obtain ⟨hx, hb, -, hown, hts, ⟨hK, hE⟩, -, -⟩ := X
  obtain ⟨⟨L, hn, hL, hP, hD, hcl⟩, hS, h0⟩ := hW
  refine va_newa (a0 := (N', .inl (fun _ => 0))) hx hb (hts _ hw) hty hK hP hD hS (fun q hq => Nat.le_trans h0 hq) (fun cA => by rw [vp_cell_i, hdf]) hn0 hN hbytes hcells hslots hdg (fun q cA H1 hK1 hP1 hD1 hS1 => ?_)
  rw [zw_dA hK hK1 ht] at hP1 hD1
  have hk := kk (va_up ad r q) H1 (fun r' hr' => va_up_ne _ _ hr') ⟨zw_made (e' := .inr (ti, N', none)) hn hL hcl h (fun r' hr' => hr') hP1 hD1, hS1, h0⟩
  rwa [va_up_self] at hk
theorem zr_newq (X : zw_X p m meth c cc nL ret s args own Y) (hW : zw_St Y N0 ad sh g s H locs) {C : String} {index : Nat} (hw : Cond.classLink own index C ∈ zt_good) (hC : C ∈ zt_arr) {ti : Nat} (ht : (zw_tys Y.2)[ti]? = some (Y.2 ti, .object C)) (hdg : decode cc pc = .ok (.anewarray index, 3)) (r : Nat) (h : sh r = none) {n : Int32} {N' : Nat} (hn0 : ¬ n < 0) (hN : n.toNatClampNeg = N') (hbytes : N' * 4 ≤ 536870912) (hcells : cells + 1 ≤ R.cells) (hslots : slots + N' ≤ R.slots)
    (kk : ∀ (ad' : Nat → Nat) (H1 : Heap), (∀ r', r' ≠ r → ad' r' = ad r') → zw_St Y N0 ad' (va_up sh r (some (.inr (ti, N', some (fun _ => none))))) (va_up g r (fun _ => 0)) s H1 locs → W p l e R s m args below meth c H1 locs (cells + 1) (slots + N') Q (F0 m (pc + 3) ls (.ref (ad' r) :: rest))) : W p l e R s m args below meth c H locs cells slots Q (F0 m pc ls (.int n :: rest)) := by
  obtain ⟨hx, hb, -, hown, hts, ⟨hK, hE⟩, -, -⟩ := X
  obtain ⟨⟨L, hn, hL, hP, hD, hcl⟩, hS, h0⟩ := hW
  refine va_newq hx hb hown (hts _ hw) (hE.2.2.2.2.1 C hC) hK hP hD hS (fun q hq => Nat.le_trans h0 hq) hn0 hN hbytes hcells hslots hdg (fun q cA H1 hK1 hP1 hD1 hS1 => ?_)
  rw [zw_dA hK hK1 ht] at hP1 hD1
  have hk := kk (va_up ad r q) H1 (fun r' hr' => va_up_ne _ _ hr') ⟨zw_made (e' := .inr (ti, N', some (fun _ => none))) (x' := fun _ => 0) hn hL hcl h (fun r' hr' => by obtain ⟨i, hi⟩ := hr'; cases hi) hP1 hD1, hS1, h0⟩
  rwa [va_up_self] at hk
theorem zw_cell (hK : zw_K Y s) (hW : zw_St Y N0 ad sh g s H locs) {r ci : Nat} {ss : List (Option (Option Nat))} (h : sh r = some (.inl (ci, ss))) {q : vw_C} (hc : zw_cls[ci]? = some q) : ∃ cell : Cell, H[ad r]? = some cell ∧ cell.vm.isStatics = false ∧ s.vm.findClass q.1 = some cell.cls := by
  obtain ⟨⟨L, hn, hL, hP, hD, hcl⟩, hS, h0⟩ := hW
  obtain ⟨k, hq1, hq2⟩ := zw_at (Y := Y) (ad := ad) (g := g) hL h
  exact va_recv hK.1 hP hc hq2
theorem zr_cast (X : zw_X p m meth c cc nL ret s args own Y) (hW : zw_St Y N0 ad sh g s H locs) {index : Nat} {nm : String} (hw : Cond.classLink own index nm ∈ zt_good) (hdg : decode cc pc = .ok (.checkcast index, 3)) {r ci : Nat} {ss : List (Option (Option Nat))} (h : sh r = some (.inl (ci, ss))) {a : Nat} (ha : ad r = a) {q : vw_C} (hc : zw_cls[ci]? = some q) (hca : (q.1, nm) ∈ zt_cast)
    (kk : W p l e R s m args below meth c H locs cells slots Q (F0 m (pc + 3) ls (.ref a :: rest))) : W p l e R s m args below meth c H locs cells slots Q (F0 m pc ls (.ref a :: rest)) := by
  subst ha
  obtain ⟨hx, hb, -, hown, hts, hK, -, -⟩ := X
  exact va_castY hx hb hown (hts _ hw) (hK.2.1 _ hca) (zw_cell hK hW h hc) hdg kk
theorem zr_inst (X : zw_X p m meth c cc nL ret s args own Y) (hW : zw_St Y N0 ad sh g s H locs) {index : Nat} {nm : String} (hw : Cond.classLink own index nm ∈ zt_good) (hdg : decode cc pc = .ok (.instanceof index, 3)) {r ci : Nat} {ss : List (Option (Option Nat))} (h : sh r = some (.inl (ci, ss))) {a : Nat} (ha : ad r = a) {q : vw_C} (hc : zw_cls[ci]? = some q) (hca : (q.1, nm) ∈ zt_cast)
    (kk : W p l e R s m args below meth c H locs cells slots Q (F0 m (pc + 3) ls (.int 1 :: rest))) : W p l e R s m args below meth c H locs cells slots Q (F0 m pc ls (.ref a :: rest)) := by
  subst ha
  obtain ⟨hx, hb, -, hown, hts, hK, -, -⟩ := X
  exact va_instY hx hb hown (hts _ hw) (hK.2.1 _ hca) (zw_cell hK hW h hc) hdg kk
theorem zr_instNo (X : zw_X p m meth c cc nL ret s args own Y) (hW : zw_St Y N0 ad sh g s H locs) {index : Nat} {nm : String} (hw : Cond.classLink own index nm ∈ zt_good) (hdg : decode cc pc = .ok (.instanceof index, 3)) {r ci : Nat} {ss : List (Option (Option Nat))} (h : sh r = some (.inl (ci, ss))) {a : Nat} (ha : ad r = a) {q : vw_C} (hc : zw_cls[ci]? = some q) (hca : (q.1, nm) ∈ zt_nc)
    (kk : W p l e R s m args below meth c H locs cells slots Q (F0 m (pc + 3) ls (.int 0 :: rest))) : W p l e R s m args below meth c H locs cells slots Q (F0 m pc ls (.ref a :: rest)) := by
  subst ha
  obtain ⟨hx, hb, -, hown, hts, hK, -, -⟩ := X
  exact va_instNo hx hb hown (hts _ hw) (hK.2.2.2.2.1 _ hca) (zw_cell hK hW h hc) hdg kk
end ZR
/-! contracts -/
abbrev zw_Po : Type := Option Value → (Nat → Nat) → (Nat → Option zw_Sh) → (Nat → Nat → Int32) → Prop
def zw_Q (Y : zw_Y) (N0 : Nat) (post : zw_Po) : Array Value → State → Outcome → State → Prop := fun _ st oc t => ∃ (v : Option Value) (ad' : Nat → Nat) (sh' : Nat → Option zw_Sh) (g' : Nat → Nat → Int32), oc = .returned v ∧ post v ad' sh' g' ∧ zw_ok Y N0 ad' sh' g' t.heap ∧ va_F (fun q => N0 ≤ q) st t
def zw_Pc (Y : zw_Y) (N0 : Nat) (ad : Nat → Nat) (sh : Nat → Option zw_Sh) (g : Nat → Nat → Int32) (As : List Value) : Array Value → State → Prop := va_Pc As (fun U => zw_K Y U ∧ zw_ok Y N0 ad sh g U.heap ∧ N0 ≤ U.heap.size)
/-- the contract of a method at a world: d frames, lc locals' words below it, mc cells of ms slots made at most -/
def zw_Met (l : Launch) (Y : zw_Y) (N0 : Nat) (y : MethodName) (bytes : ByteArray) (maxL : Nat) (ret : Option FieldType) (d lc mc ms : Nat) (ad : Nat → Nat) (sh : Nat → Option zw_Sh) (g : Nat → Nat → Int32) (As : List Value) (post : zw_Po) : Prop :=
  Met l y (Cond.code y bytes maxL ret :: zt_good) { frames := d, cells := mc, slots := ms, locals := lc } (zw_Pc Y N0 ad sh g As) (zw_Q Y N0 post) mc ms (fun q => N0 ≤ q)
theorem zw_blind {Y : zw_Y} {N0 : Nat} {ad : Nat → Nat} {sh : Nat → Option zw_Sh} {g : Nat → Nat → Int32} {As : List Value} : FrameBlind (zw_Pc Y N0 ad sh g As) := fun a U f mk q => ⟨q.1, q.2.1.same rfl, q.2.2⟩
theorem zw_meth {l : Launch} {Y : zw_Y} {N0 : Nat} {y : MethodName} {bytes : ByteArray} {maxL : Nat} {ret : Option FieldType} {d lc mc ms : Nat} {ad : Nat → Nat} {sh : Nat → Option zw_Sh} {g : Nat → Nat → Int32} {As : List Value} {post : zw_Po} (hy : plainName y.cls = true) (hle : (lg_sl As).length ≤ maxL)
    (body : ∀ (p : Program) (e : Env) (s : State) (m : MethodId) (below : List Frame) (meth : Method) (c : Code) (ls : Array Slot), zw_X p m meth c bytes maxL ret s As.toArray y.cls Y → meth.name = y.name → lv_has ls maxL (lv_args 0 As) → zw_St Y N0 ad sh g s s.heap [] →
      W p l e { frames := d, cells := mc, slots := ms, locals := lc } s m As.toArray below meth c s.heap [] 0 0 (MQ below (zw_Q Y N0 post) As.toArray s mc ms (fun q => N0 ≤ q)) (F0 m 0 ls [])) : zw_Met l Y N0 y bytes maxL ret d lc mc ms ad sh g As post := by
  refine Met.ofW (cc := bytes) (maxL := maxL) (ret := ret) hy rfl ?_
  intro p e s m args below meth c s₁ B hml hv
  obtain ⟨rfl, hK, hok, h0⟩ := hv
  have hts := atoms_spec (ws := Cond.code y bytes maxL ret :: zt_good) B.pre
  have hl := lv_entry As (n := maxL) hle
  rw [lg_entry_eq]
  exact body p e s m below meth c _ ⟨B.exec, B.bytes, hml, findClass_of_methodNamed B.named, fun w hw => hts w (List.mem_cons_of_mem _ hw), hK, B.returns, B.notSynchronized⟩ (name_of_methodNamed B.named B.method).1 hl ⟨hok, va_S.rf, h0⟩
section ZC
variable {p : Program} {l : Launch} {e : Env} {R : Room} {s : State} {m : MethodId} {args : Array Value} {below : List Frame} {meth : Method} {c : Code} {H : Heap} {locs : List Loc} {cells slots : Nat} {Q : State → Prop}
variable {cc : ByteArray} {pc nL : Nat} {ret : Option FieldType} {ls : Array Slot} {rest st0 : List Value} {Y : zw_Y} {N0 : Nat} {ad : Nat → Nat} {sh : Nat → Option zw_Sh} {g : Nat → Nat → Int32} {own : String}
theorem zr_iret {mc ms : Nat} {post : zw_Po} (X : zw_X p m meth c cc nL (some .int) s args own Y) (hW : zw_St Y N0 ad sh g s H locs) (hdg : decode cc pc = .ok (.ireturn, 1)) (hc : cells ≤ mc) (hs : slots ≤ ms) {v : Int32} (hp : post (some (.int v)) ad sh g) : W p l e R s m args below meth c H locs cells slots (MQ below (zw_Q Y N0 post) args s mc ms (fun q => N0 ≤ q)) (F0 m pc ls [.int v]) := by
  obtain ⟨hx, hb, -, -, -, -, hr, hlk⟩ := X
  refine W.widen hc hs ?_
  exact W.iret hx hb hr (fun t ht hw => ⟨_, ad, sh, g, rfl, hp, by rw [ht]; exact hW.1, hW.2.1.F ht⟩) hW.2.1.2.2 hdg
theorem zr_zret {mc ms : Nat} {post : zw_Po} (X : zw_X p m meth c cc nL (some .boolean) s args own Y) (hW : zw_St Y N0 ad sh g s H locs) (hdg : decode cc pc = .ok (.ireturn, 1)) (hc : cells ≤ mc) (hs : slots ≤ ms) {v : Int32} (hn : narrow .boolean (.int v) = .int v) (hp : post (some (.int v)) ad sh g) : W p l e R s m args below meth c H locs cells slots (MQ below (zw_Q Y N0 post) args s mc ms (fun q => N0 ≤ q)) (F0 m pc ls [.int v]) := by
  obtain ⟨hx, hb, -, -, -, -, hr, hlk⟩ := X
  refine W.widen hc hs ?_
  exact W.zret hx hb hr hn (fun t ht hw => ⟨_, ad, sh, g, rfl, hp, by rw [ht]; exact hW.1, hW.2.1.F ht⟩) hW.2.1.2.2 hdg
theorem zr_vret {mc ms : Nat} {post : zw_Po} (X : zw_X p m meth c cc nL none s args own Y) (hW : zw_St Y N0 ad sh g s H locs) (hdg : decode cc pc = .ok (.return_, 1)) (hc : cells ≤ mc) (hs : slots ≤ ms) (hp : post none ad sh g) : W p l e R s m args below meth c H locs cells slots (MQ below (zw_Q Y N0 post) args s mc ms (fun q => N0 ≤ q)) (F0 m pc ls []) := by
  obtain ⟨hx, hb, -, -, -, -, hr, hlk⟩ := X
  refine W.widen hc hs ?_
  exact W.vret hx hb hr (fun t ht hw => ⟨_, ad, sh, g, rfl, hp, by rw [ht]; exact hW.1, hW.2.1.F ht⟩) hW.2.1.2.2 hdg
theorem zr_aret {mc ms : Nat} {post : zw_Po} {C : String} (X : zw_X p m meth c cc nL (some (.object C)) s args own Y) (hW : zw_St Y N0 ad sh g s H locs) (hdg : decode cc pc = .ok (.areturn, 1)) (hc : cells ≤ mc) (hs : slots ≤ ms) {v : Value} (hv : v = .null ∨ ∃ a, v = .ref a) (hp : post (some v) ad sh g) : W p l e R s m args below meth c H locs cells slots (MQ below (zw_Q Y N0 post) args s mc ms (fun q => N0 ≤ q)) (F0 m pc ls [v]) := by
  obtain ⟨hx, hb, -, -, -, -, hr, hlk⟩ := X
  refine W.widen hc hs ?_
  exact W.aret hx hb hr (Or.inl ⟨C, rfl⟩) hv (fun t ht hw => ⟨_, ad, sh, g, rfl, hp, by rw [ht]; exact hW.1, hW.2.1.F ht⟩) hW.2.1.2.2 hdg
theorem zr_run {mc ms : Nat} {post : zw_Po} {a : Array Value} (hW : zw_St Y N0 ad sh g s H locs) (hr : va_Run p l e R s m args below meth c H locs cells slots mc ms (F0 m pc ls st0) rest (zw_Q Y N0 post a) (fun q => N0 ≤ q))
    (kk : ∀ (v : Option Value) (ad' : Nat → Nat) (sh' : Nat → Option zw_Sh) (g' : Nat → Nat → Int32) (H1 : Heap) (locs1 : List Loc), post v ad' sh' g' → zw_St Y N0 ad' sh' g' s H1 locs1 → W p l e R s m args below meth c H1 locs1 (cells + mc) (slots + ms) Q (F0 m (pc + 3) ls (v.toList ++ rest))) : W p l e R s m args below meth c H locs cells slots Q (F0 m pc ls st0) := by
  obtain ⟨hok, hS, h0⟩ := hW
  intro T hT X
  obtain ⟨v, st₀, t, T', L, e0, X', hL, e1, e2, ⟨v', ad', sh', g', hv, hp, hb, hz, hk⟩, st⟩ := hr T hT X
  cases hv
  rw [e0] at hz hk
  obtain ⟨t2, a1, b1⟩ := kk v ad' sh' g' T'.heap (locs ++ L) hp ⟨by rw [e1]; exact hb, ⟨Nat.le_trans hS.1 (by rw [e1]; exact hz), fun q h1 h2 => by rw [e1, hk q (Nat.lt_of_lt_of_le h1 hS.1) h2]; exact hS.2.1 q h1 h2, fun q hq => by
      rcases List.mem_append.mp hq with h | h
      · exact hS.2.2 q h
      · exact hL q h⟩, h0⟩ T' rfl X'
  exact ⟨t2, st t2 a1, b1⟩
/-- what the tables say of a method -/
def zw_MD (y : MethodName) (bytes : ByteArray) (maxL : Nat) (rt : Option FieldType) (n : Nat) : Prop := Cond.code y bytes maxL rt ∈ zt_good ∧ Cond.initialized y.cls ∈ zt_good ∧ (y.cls ≠ "java/lang/invoke/MethodHandle" ∧ y.cls ≠ "java/lang/invoke/VarHandle" ∧ (parseMethodDescriptor y.desc).map (fun d => d.parameters.length) = some n)
theorem zr_callV {y : MethodName} {bytes : ByteArray} {maxL : Nat} {rt : Option FieldType} {d lc mc ms n index : Nat} {post : zw_Po} {As : List Value} {r ci : Nat} {ss : List (Option (Option Nat))} {q : vw_C} (X : zw_X p m meth c cc nL ret s args own Y) (hW : zw_St Y N0 ad sh g s H locs) (hl : ls.size = nL) (D : zw_MD y bytes maxL rt n) (hw : Cond.methodLink own index y ∈ zt_good ∧ Cond.instanceMethod y ∈ zt_good ∧ Cond.selects y.cls y y ∈ zt_good) (hdg : decode cc pc = .ok (.invokevirtual index, 3)) (h : sh r = some (.inl (ci, ss))) (hc : zw_cls[ci]? = some q) (hqc : q.1 = y.cls) (hn : As.length = n) (hst : st0 = As.reverse ++ .ref (ad r) :: rest) (hrm : (rest.map fun v => v.category).sum ≤ 8) (hfr : d + 1 ≤ R.frames ∧ 8 + (maxL + 11) + lc ≤ R.locals) (hf : cells + mc ≤ R.cells ∧ slots + ms ≤ R.slots)
    (hM : zw_Met l Y N0 y bytes maxL rt d lc mc ms ad sh g (.ref (ad r) :: As) post)
    (kk : ∀ (v : Option Value) (ad' : Nat → Nat) (sh' : Nat → Option zw_Sh) (g' : Nat → Nat → Int32) (H1 : Heap) (locs1 : List Loc), post v ad' sh' g' → zw_St Y N0 ad' sh' g' s H1 locs1 → W p l e R s m args below meth c H1 locs1 (cells + mc) (slots + ms) Q (F0 m (pc + 3) ls (v.toList ++ rest))) : W p l e R s m args below meth c H locs cells slots Q (F0 m pc ls st0) := by
  obtain ⟨hx, hb, hml, hown, hts, hK, -, -⟩ := X
  have hrecv := zw_cell hK hW h hc
  rw [hqc] at hrecv
  subst hst
  refine zr_run hW (va_runV (As := As) (rest := rest) (C := y.cls) ⟨hx, hb, hml, hown, hts⟩ hM (cwV n hts (zt_code (ws := [.methodLink own index y, .instanceMethod y, .selects y.cls y y, .initialized y.cls]) D.1 ?_) rfl rfl rfl ⟨rfl, D.2.2⟩ hfr) ⟨zw_blind, hrecv, fun U hU hw9 => ⟨rfl, hK.warm hw9, by rw [hU]; exact hW.1, by rw [hU]; exact Nat.le_trans hW.2.2 hW.2.1.1⟩⟩ rfl hn hl rfl (lv_room hrm) hdg hf) kk
  intro w hw9
  simp only [List.mem_cons, List.not_mem_nil, or_false] at hw9
  rcases hw9 with rfl | rfl | rfl | rfl
  · exact hw.1
  · exact hw.2.1
  · exact hw.2.2
  · exact D.2.1
theorem zr_callS {y : MethodName} {bytes : ByteArray} {maxL : Nat} {rt : Option FieldType} {d lc mc ms n index : Nat} {post : zw_Po} {As : List Value} (X : zw_X p m meth c cc nL ret s args own Y) (hW : zw_St Y N0 ad sh g s H locs) (hl : ls.size = nL) (D : zw_MD y bytes maxL rt n) (hw : Cond.methodLink own index y ∈ zt_good ∧ Cond.static y ∈ zt_good) (hdg : decode cc pc = .ok (.invokestatic index, 3)) (hn : As.length = n) (hst : st0 = As.reverse ++ rest) (hrm : (rest.map fun v => v.category).sum ≤ 8) (hfr : d + 1 ≤ R.frames ∧ 8 + (maxL + 11) + lc ≤ R.locals) (hf : cells + mc ≤ R.cells ∧ slots + ms ≤ R.slots)
    (hM : zw_Met l Y N0 y bytes maxL rt d lc mc ms ad sh g As post)
    (kk : ∀ (v : Option Value) (ad' : Nat → Nat) (sh' : Nat → Option zw_Sh) (g' : Nat → Nat → Int32) (H1 : Heap) (locs1 : List Loc), post v ad' sh' g' → zw_St Y N0 ad' sh' g' s H1 locs1 → W p l e R s m args below meth c H1 locs1 (cells + mc) (slots + ms) Q (F0 m (pc + 3) ls (v.toList ++ rest))) : W p l e R s m args below meth c H locs cells slots Q (F0 m pc ls st0) := by
  obtain ⟨hx, hb, hml, hown, hts, hK, -, -⟩ := X
  subst hst
  refine zr_run hW (va_runS (As := As) (rest := rest) ⟨hx, hb, hml, hown, hts⟩ hM (va_cwS n hts (zt_code (ws := [.methodLink own index y, .static y, .initialized y.cls]) D.1 ?_) rfl rfl rfl D.2.2 hfr) ⟨zw_blind, fun U hU hw9 => ⟨rfl, hK.warm hw9, by rw [hU]; exact hW.1, by rw [hU]; exact Nat.le_trans hW.2.2 hW.2.1.1⟩⟩ rfl hn hl rfl (lv_room hrm) hdg hf) kk
  intro w hw9
  simp only [List.mem_cons, List.not_mem_nil, or_false] at hw9
  rcases hw9 with rfl | rfl | rfl
  · exact hw.1
  · exact hw.2
  · exact D.2.1
theorem zr_callSN {y : MethodName} {host : String} {bytes : ByteArray} {maxL : Nat} {rt : Option FieldType} {d lc mc ms n index : Nat} {post : zw_Po} {As : List Value} (X : zw_X p m meth c cc nL ret s args own Y) (hW : zw_St Y N0 ad sh g s H locs) (hl : ls.size = nL) (D : zw_MD y bytes maxL rt n) (hw : (own, index, y, host) ∈ zt_nest ∧ Cond.static y ∈ zt_good) (hdg : decode cc pc = .ok (.invokestatic index, 3)) (hn : As.length = n) (hst : st0 = As.reverse ++ rest) (hrm : (rest.map fun v => v.category).sum ≤ 8) (hfr : d + 1 ≤ R.frames ∧ 8 + (maxL + 11) + lc ≤ R.locals) (hf : cells + mc ≤ R.cells ∧ slots + ms ≤ R.slots)
    (hM : zw_Met l Y N0 y bytes maxL rt d lc mc ms ad sh g As post)
    (kk : ∀ (v : Option Value) (ad' : Nat → Nat) (sh' : Nat → Option zw_Sh) (g' : Nat → Nat → Int32) (H1 : Heap) (locs1 : List Loc), post v ad' sh' g' → zw_St Y N0 ad' sh' g' s H1 locs1 → W p l e R s m args below meth c H1 locs1 (cells + mc) (slots + ms) Q (F0 m (pc + 3) ls (v.toList ++ rest))) : W p l e R s m args below meth c H locs cells slots Q (F0 m pc ls st0) := by
  obtain ⟨hx, hb, hml, hown, hts, hK, -, -⟩ := X
  subst hst
  exact zr_run hW (va_runSN (As := As) (rest := rest) ⟨hx, hb, hml, hown, hts⟩ hM ⟨va_cnB n hts (zt_code (ws := []) D.1 (fun w h => by cases h)) rfl rfl rfl (hK.2.2.1 _ hw.1) (hts _ D.2.1) D.2.2 hfr, hts _ hw.2, trivial⟩ ⟨zw_blind, fun U hU hw9 => ⟨rfl, hK.warm hw9, by rw [hU]; exact hW.1, by rw [hU]; exact Nat.le_trans hW.2.2 hW.2.1.1⟩⟩ rfl hn hl rfl (lv_room hrm) hdg hf) kk
theorem zr_callI {y : MethodName} {bytes : ByteArray} {maxL : Nat} {d lc mc ms n index b : Nat} {post : zw_Po} {As : List Value} (X : zw_X p m meth c cc nL ret s args own Y) (hW : zw_St Y N0 ad sh g s H locs) (hl : ls.size = nL) (D : zw_MD y bytes maxL none n) (hw : Cond.methodLink own index y ∈ zt_good ∧ Cond.instanceMethod y ∈ zt_good) (hy1 : y.name = "<init>") (hdg : decode cc pc = .ok (.invokespecial index, 3)) (hn : As.length = n) (hst : st0 = As.reverse ++ .ref b :: rest) (hrm : (rest.map fun v => v.category).sum ≤ 8) (hfr : d + 1 ≤ R.frames ∧ 8 + (maxL + 11) + lc ≤ R.locals) (hf : cells + mc ≤ R.cells ∧ slots + ms ≤ R.slots)
    (hM : zw_Met l Y N0 y bytes maxL none d lc mc ms ad sh g (.ref b :: As) post)
    (kk : ∀ (v : Option Value) (ad' : Nat → Nat) (sh' : Nat → Option zw_Sh) (g' : Nat → Nat → Int32) (H1 : Heap) (locs1 : List Loc), post v ad' sh' g' → zw_St Y N0 ad' sh' g' s H1 locs1 → W p l e R s m args below meth c H1 locs1 (cells + mc) (slots + ms) Q (F0 m (pc + 3) ls (v.toList ++ rest))) : W p l e R s m args below meth c H locs cells slots Q (F0 m pc ls st0) := by
  obtain ⟨hx, hb, hml, hown, hts, hK, -, -⟩ := X
  subst hst
  exact zr_run hW (va_runI (As := As) (rest := rest) ⟨hx, hb, hml, hown, hts⟩ hM (cwI n hts (zt_code (ws := []) D.1 (fun w h => by cases h)) rfl rfl rfl (hts _ D.2.1) (hts _ hw.1) (hts _ hw.2) hy1 D.2.2 hfr) ⟨zw_blind, fun U hU hw9 => ⟨rfl, hK.warm hw9, by rw [hU]; exact hW.1, by rw [hU]; exact Nat.le_trans hW.2.2 hW.2.1.1⟩⟩ rfl hn hl rfl (lv_room hrm) hdg hf) kk
theorem zr_callIN {y : MethodName} {host : String} {bytes : ByteArray} {maxL : Nat} {d lc mc ms n index b : Nat} {post : zw_Po} {As : List Value} (X : zw_X p m meth c cc nL ret s args own Y) (hW : zw_St Y N0 ad sh g s H locs) (hl : ls.size = nL) (D : zw_MD y bytes maxL none n) (hw : (own, index, y, host) ∈ zt_nest ∧ Cond.instanceMethod y ∈ zt_good) (hy1 : y.name = "<init>") (hdg : decode cc pc = .ok (.invokespecial index, 3)) (hn : As.length = n) (hst : st0 = As.reverse ++ .ref b :: rest) (hrm : (rest.map fun v => v.category).sum ≤ 8) (hfr : d + 1 ≤ R.frames ∧ 8 + (maxL + 11) + lc ≤ R.locals) (hf : cells + mc ≤ R.cells ∧ slots + ms ≤ R.slots)
    (hM : zw_Met l Y N0 y bytes maxL none d lc mc ms ad sh g (.ref b :: As) post)
    (kk : ∀ (v : Option Value) (ad' : Nat → Nat) (sh' : Nat → Option zw_Sh) (g' : Nat → Nat → Int32) (H1 : Heap) (locs1 : List Loc), post v ad' sh' g' → zw_St Y N0 ad' sh' g' s H1 locs1 → W p l e R s m args below meth c H1 locs1 (cells + mc) (slots + ms) Q (F0 m (pc + 3) ls (v.toList ++ rest))) : W p l e R s m args below meth c H locs cells slots Q (F0 m pc ls st0) := by
  obtain ⟨hx, hb, hml, hown, hts, hK, -, -⟩ := X
  subst hst
  exact zr_run hW (va_runIN (As := As) (rest := rest) ⟨hx, hb, hml, hown, hts⟩ hM ⟨va_cnB n hts (zt_code (ws := []) D.1 (fun w h => by cases h)) rfl rfl rfl (hK.2.2.1 _ hw.1) (hts _ D.2.1) D.2.2 hfr, hy1, hts _ hw.2⟩ ⟨zw_blind, fun U hU hw9 => ⟨rfl, hK.warm hw9, by rw [hU]; exact hW.1, by rw [hU]; exact Nat.le_trans hW.2.2 hW.2.1.1⟩⟩ rfl hn hl rfl (lv_room hrm) hdg hf) kk
theorem zr_objI {index b : Nat} (X : zw_X p m meth c cc nL ret s args own Y) (hl : ls.size = nL) (hw : Cond.methodLink own index objectInit ∈ zt_good ∧ Cond.instanceMethod objectInit ∈ zt_good ∧ Cond.code objectInit ⟨#[0xb1]⟩ 1 none ∈ zt_good) (hdg : decode cc pc = .ok (.invokespecial index, 3)) (hfr : 1 ≤ R.frames) (hlo : 20 ≤ R.locals) (hrm : (rest.map fun v => v.category).sum ≤ 8)
    (kk : W p l e R s m args below meth c H locs cells slots Q (F0 m (pc + 3) ls rest)) : W p l e R s m args below meth c H locs cells slots Q (F0 m pc ls (.ref b :: rest)) := by
  obtain ⟨hx, hb, hml, hown, hts, hK, -, -⟩ := X
  refine W.objInit hx hb hown (hts _ hw.1) (hts _ hw.2.1) (hts _ hw.2.2) rfl (by rw [hml]; exact hl) rfl hdg hfr ?_ kk
  have := lv_room (m := m) (pc := pc) (ls := ls) (rest := .ref b :: rest) hrm
  omega
end ZC
