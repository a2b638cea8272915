abbrev zw_cls : List vw_C := [(RX0, TX0, 3), (RX1, TX1, 5), (RX2, TX2, 4), (RX3, TX3, 3), (RX4, TX4, 5), (RX5, TX5, 3), (RX7, TX7, 6), (RX8, TX8, 6), (RX9, TX9, 12), (RX10, TX10, 30)]
abbrev zw_tys (dA : Nat → ClassId) : List (ClassId × FieldType) := [(dA 0, .int), (dA 1, .boolean), (dA 2, .object "TicketRealm$Claim"), (dA 3, .object "TicketRealm$Seal"), (dA 4, .object "TicketRealm$User"), (dA 5, .array .int)]
/-! worlds by roles: a cell is named by a role (a number), its address is 'ad role'; what it holds is a shape and ints -/
abbrev zw_Sh : Type := (Nat × List (Option (Option Nat))) ⊕ (Nat × Nat × Option (Nat → Option Nat))
abbrev zw_Y : Type := va_G × (Nat → ClassId)
def zw_vl (ad : Nat → Nat) (x : Int32) (t : Option (Option Nat)) : Value := match t with
  | none => .int x
  | some none => .null
  | some (some r) => .ref (ad r)
def zw_fs (ad : Nat → Nat) (x : Nat → Int32) : Nat → List (Option (Option Nat)) → List Value
  | _, [] => []
  | k, t :: ts => zw_vl ad (x k) t :: zw_fs ad x (k + 1) ts
theorem zw_fs_at (ad : Nat → Nat) (x : Nat → Int32) : ∀ (ts : List (Option (Option Nat))) (o k : Nat), (zw_fs ad x o ts)[k]? = (ts[k]?).map (zw_vl ad (x (o + k)))
  | [], o, k => by simp [zw_fs]
  | t :: ts, o, 0 => by simp [zw_fs]
  | t :: ts, o, k + 1 => by
    simp only [zw_fs, List.getElem?_cons_succ]
    rw [zw_fs_at ad x ts (o + 1) k, show o + 1 + k = o + (k + 1) by omega]
theorem zw_fs_len (ad : Nat → Nat) (x : Nat → Int32) : ∀ (ts : List (Option (Option Nat))) (o : Nat), (zw_fs ad x o ts).length = ts.length
  | [], o => rfl
  | t :: ts, o => by simp [zw_fs, zw_fs_len ad x ts (o + 1)]
theorem zw_fs_seti (ad : Nat → Nat) (x : Nat → Int32) (ts : List (Option (Option Nat))) (k : Nat) (v : Int32) (h : ts[k]? = some none) : (zw_fs ad x 0 ts).set k (.int v) = zw_fs ad (upd x k v) 0 ts := by
  have hk : k < ts.length := (List.getElem?_eq_some_iff.mp h).1
  apply List.ext_getElem?
  intro j
  rw [List.getElem?_set, zw_fs_at, zw_fs_at, zw_fs_len]
  by_cases hj : k = j
  · subst hj
    rw [if_pos rfl, if_pos hk, h]
    simp [zw_vl, upd]
  · rw [if_neg hj]
    simp [upd, Ne.symm hj]
theorem zw_fs_setr (ad : Nat → Nat) (x : Nat → Int32) (ts : List (Option (Option Nat))) (k r : Nat) (hk : k < ts.length) : (zw_fs ad x 0 ts).set k (.ref (ad r)) = zw_fs ad x 0 (ts.set k (some (some r))) := by
  apply List.ext_getElem?
  intro j
  rw [List.getElem?_set, zw_fs_at, zw_fs_at, zw_fs_len, List.getElem?_set]
  by_cases hj : k = j
  · subst hj
    simp [hk, zw_vl]
  · simp [hj]
theorem zw_fs_ad {ad ad' : Nat → Nat} (x : Nat → Int32) : ∀ (ts : List (Option (Option Nat))) (o : Nat), (∀ r, some (some r) ∈ ts → ad' r = ad r) → zw_fs ad' x o ts = zw_fs ad x o ts
  | [], o, _ => rfl
  | t :: ts, o, h => by
    simp only [zw_fs]
    rw [zw_fs_ad x ts (o + 1) (fun r hr => h r (List.mem_cons_of_mem _ hr))]
    congr 1
    match t with
    | none => rfl
    | some none => rfl
    | some (some r) => simp [zw_vl, h r List.mem_cons_self]
def zw_ce (dA : Nat → ClassId) (ad : Nat → Nat) (x : Nat → Int32) (e : zw_Sh) : va_E := match e with
  | .inl q => .inr (q.1, zw_fs ad x 0 q.2)
  | .inr (ti, n, none) => .inl (dA ti, n, .inl x)
  | .inr (ti, n, some f) => .inl (dA ti, n, .inr (.inr (.inr (.inr (fun i => (f i).map ad)))))
/-- e refers to the role r -/
def zw_re (e : zw_Sh) (r : Nat) : Prop := match e with
  | .inl q => some (some r) ∈ q.2
  | .inr (_, _, none) => False
  | .inr (_, _, some f) => ∃ i, f i = some r
theorem zw_ce_ad {dA : Nat → ClassId} {ad ad' : Nat → Nat} {x : Nat → Int32} {e : zw_Sh} (h : ∀ r, zw_re e r → ad' r = ad r) : zw_ce dA ad' x e = zw_ce dA ad x e := by
  match e with
  | .inl q => simp only [zw_ce]; rw [zw_fs_ad x q.2 0 h]
  | .inr (ti, n, none) => rfl
  | .inr (ti, n, some f) =>
    simp only [zw_ce]
    refine congrArg (fun z => (Sum.inl (dA ti, n, .inr (.inr (.inr (.inr z)))) : va_E)) (funext fun i => ?_)
    cases hf : f i with
    | none => rfl
    | some r => simp only [Option.map_some]; rw [h r ⟨i, hf⟩]
def zw_F (Y : zw_Y) (ad : Nat → Nat) (sh : Nat → Option zw_Sh) (g : Nat → Nat → Int32) (r : Nat) : Nat × va_E := (ad r, match sh r with | some e => zw_ce Y.2 ad (g r) e | none => .inr (0, []))
def zw_ok (Y : zw_Y) (N0 : Nat) (ad : Nat → Nat) (sh : Nat → Option zw_Sh) (g : Nat → Nat → Int32) (H : Heap) : Prop :=
  ∃ L : List Nat, L.Nodup ∧ (∀ r, r ∈ L ↔ sh r ≠ none) ∧ va_P Y.1 zw_cls (L.map (zw_F Y ad sh g)) H ∧ va_D (fun q => N0 ≤ q) (L.map (zw_F Y ad sh g)) ∧ ∀ r e, sh r = some e → ∀ r', zw_re e r' → sh r' ≠ none
def zw_St (Y : zw_Y) (N0 : Nat) (ad : Nat → Nat) (sh : Nat → Option zw_Sh) (g : Nat → Nat → Int32) (s : State) (H : Heap) (locs : List Loc) : Prop :=
  zw_ok Y N0 ad sh g H ∧ va_S (fun q => N0 ≤ q) s.heap H locs ∧ N0 ≤ s.heap.size
theorem zw_at {Y : zw_Y} {ad : Nat → Nat} {sh : Nat → Option zw_Sh} {g : Nat → Nat → Int32} {L : List Nat} (hL : ∀ r, r ∈ L ↔ sh r ≠ none) {r : Nat} {e : zw_Sh} (h : sh r = some e) : ∃ k : Nat, L[k]? = some r ∧ (L.map (zw_F Y ad sh g))[k]? = some (ad r, zw_ce Y.2 ad (g r) e) := by
  obtain ⟨k, hk⟩ := List.getElem?_of_mem ((hL r).mpr (by rw [h]; simp))
  refine ⟨k, hk, ?_⟩
  rw [List.getElem?_map, hk]
  simp [zw_F, h]
theorem zw_set {α : Type} {L : List Nat} {F F' : Nat → α} {k r : Nat} {a : α} (hn : L.Nodup) (hk : L[k]? = some r) (h1 : F' r = a) (h2 : ∀ q, q ∈ L → q ≠ r → F' q = F q) : (L.map F).set k a = L.map F' := by
  have hkl : k < L.length := (List.getElem?_eq_some_iff.mp hk).1
  apply List.ext_getElem?
  intro j
  rw [List.getElem?_set, List.getElem?_map, List.getElem?_map, List.length_map]
  by_cases hj : k = j
  · subst hj
    rw [if_pos rfl, if_pos hkl, hk]
    simp [h1]
  · rw [if_neg hj]
    cases hq : L[j]? with
    | none => rfl
    | some q =>
      have hne : q ≠ r := by
        intro e
        subst e
        exact hj ((List.getElem?_inj hkl hn).mp (hk.trans hq.symm))
      simp [h2 q (List.mem_of_getElem? hq) hne]
/-- the world behind a store into the cell of role r -/
theorem zw_stored {Y : zw_Y} {N0 : Nat} {ad : Nat → Nat} {sh : Nat → Option zw_Sh} {g : Nat → Nat → Int32} {L : List Nat} {H1 : Heap} (hn : L.Nodup) (hL : ∀ r, r ∈ L ↔ sh r ≠ none) (hcl : ∀ r e, sh r = some e → ∀ r', zw_re e r' → sh r' ≠ none)
    {r k : Nat} {e0 e' : zw_Sh} {x' : Nat → Int32} (h0 : sh r = some e0) (hk : L[k]? = some r) (he : ∀ r', zw_re e' r' → sh r' ≠ none)
    (hP : va_P Y.1 zw_cls ((L.map (zw_F Y ad sh g)).set k (ad r, zw_ce Y.2 ad x' e')) H1) (hD : va_D (fun q => N0 ≤ q) ((L.map (zw_F Y ad sh g)).set k (ad r, zw_ce Y.2 ad x' e'))) : zw_ok Y N0 ad (va_up sh r (some e')) (va_up g r x') H1 := by
  have hs : (L.map (zw_F Y ad sh g)).set k (ad r, zw_ce Y.2 ad x' e') = L.map (zw_F Y ad (va_up sh r (some e')) (va_up g r x')) := by
    refine zw_set hn hk ?_ ?_
    · simp [zw_F, va_up]
    · intro q _ hq
      simp [zw_F, va_up, hq]
  rw [hs] at hP hD
  have hnn : ∀ q, va_up sh r (some e') q ≠ none ↔ sh q ≠ none := by
    intro q
    by_cases hq : q = r
    · subst hq; simp [va_up, h0]
    · simp [va_up, hq]
  refine ⟨L, hn, fun q => (hL q).trans (hnn q).symm, hP, hD, fun q e hq r' hr' => (hnn r').mpr ?_⟩
  by_cases hqr : q = r
  · subst hqr
    rw [va_up_self] at hq
    cases hq
    exact he r' hr'
  · rw [va_up_ne _ _ hqr] at hq
    exact hcl q e hq r' hr'
theorem zw_up_same {α : Type} {f : Nat → α} {k : Nat} {v : α} (h : f k = v) : va_up f k v = f := by
  funext j
  by_cases hj : j = k
  · subst hj; rw [va_up_self, h]
  · rw [va_up_ne _ _ hj]
/-- the world behind the making of a cell, of a role that was free -/
theorem zw_made {Y : zw_Y} {N0 : Nat} {ad : Nat → Nat} {sh : Nat → Option zw_Sh} {g : Nat → Nat → Int32} {L : List Nat} {H1 : Heap} (hn : L.Nodup) (hL : ∀ r, r ∈ L ↔ sh r ≠ none) (hcl : ∀ r e, sh r = some e → ∀ r', zw_re e r' → sh r' ≠ none)
    {r q : Nat} {e' : zw_Sh} {x' : Nat → Int32} (h0 : sh r = none) (he : ∀ r', ¬ zw_re e' r')
    (hP : va_P Y.1 zw_cls (L.map (zw_F Y ad sh g) ++ [(q, zw_ce Y.2 ad x' e')]) H1) (hD : va_D (fun q => N0 ≤ q) (L.map (zw_F Y ad sh g) ++ [(q, zw_ce Y.2 ad x' e')])) : zw_ok Y N0 (va_up ad r q) (va_up sh r (some e')) (va_up g r x') H1 := by
  have hrL : r ∉ L := fun h => (hL r).mp h h0
  have hs : L.map (zw_F Y ad sh g) ++ [(q, zw_ce Y.2 ad x' e')] = (L ++ [r]).map (zw_F Y (va_up ad r q) (va_up sh r (some e')) (va_up g r x')) := by
    rw [List.map_append]
    congr 1
    · apply List.map_congr_left
      intro j hj
      have hjr : j ≠ r := fun e => hrL (e ▸ hj)
      simp only [zw_F, va_up_ne _ _ hjr]
      congr 1
      cases hsj : sh j with
      | none => rfl
      | some e =>
        refine (zw_ce_ad fun r' hr' => va_up_ne _ _ ?_).symm
        intro e2
        subst e2
        exact hcl j e hsj r' hr' h0
    · simp only [List.map_cons, List.map_nil, zw_F, va_up_self]
      rw [zw_ce_ad (ad' := va_up ad r q) (ad := ad) (fun r' hr' => absurd hr' (he r'))]
  rw [hs] at hP hD
  refine ⟨L ++ [r], List.nodup_append.mpr ⟨hn, by simp, ?_⟩, fun j => ?_, hP, hD, fun j e hj r' hr' => ?_⟩
  · intro a ha b hb
    rw [List.mem_singleton] at hb
    subst hb
    exact fun e => hrL (e ▸ ha)
  · rw [List.mem_append, List.mem_singleton]
    by_cases hjr : j = r
    · subst hjr; simp [va_up]
    · simp [hjr, va_up, hL j]
  · by_cases hrr : r' = r
    · subst hrr; simp [va_up]
    · rw [va_up_ne _ _ hrr]
      by_cases hjr : j = r
      · subst hjr
        rw [va_up_self] at hj
        cases hj
        exact absurd hr' (he r')
      · rw [va_up_ne _ _ hjr] at hj
        exact hcl j e hj r' hr'
