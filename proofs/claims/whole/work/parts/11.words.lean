/-! the words of the tables that stay true: carried by every contract; the rest as facts of the state -/
def zt_good : List Cond := lw_tbl.filter goodWord
theorem zt_in {w : Cond} (h : w ∈ lw_tbl) (hg : goodWord w = true) : w ∈ zt_good := List.mem_filter.mpr ⟨h, hg⟩
theorem zt_goodin {ws : List Cond} (h : ∀ w ∈ ws, w ∈ zt_good) : GoodIn zt_good ws := fun w hw => ⟨h w hw, good_of_word (List.mem_filter.mp (h w hw)).2⟩
theorem zt_code {ws : List Cond} {c : Cond} (hc : c ∈ zt_good) (h : ∀ w ∈ ws, w ∈ zt_good) : GoodIn zt_good (ws ++ (c :: zt_good)) := zt_goodin fun w hw => by
  rcases List.mem_append.mp hw with h1 | h1
  · exact h w h1
  · rcases List.mem_cons.mp h1 with rfl | h2
    · exact hc
    · exact h2
def zt_cast : List (String × String) := [("TicketRealm$Part", "TicketRealm$Part"), ("TicketRealm$Proof", "TicketRealm$Proof"), ("TicketRealm$Ticket", "TicketRealm$Ticket"), ("TicketRealm$Claim", "TicketRealm$Claim"), ("TicketRealm$Claim", "TicketRealm$Seal"), ("TicketRealm$Part", "TicketRealm$Seal"), ("TicketRealm$Proof", "TicketRealm$Seal"), ("TicketRealm$Ticket", "TicketRealm$Seal")]
def zt_nest : List (String × Nat × MethodName × String) := [("TicketRealm", 34, ⟨"TicketRealm$FileService", "<init>", "()V"⟩, "TicketRealm"), ("TicketRealm$Book", 23, ⟨"TicketRealm", "isPrincipal", "(I)Z"⟩, "TicketRealm")]
def zt_nc : List (String × String) := [("TicketRealm$Proof", "TicketRealm$Part"), ("TicketRealm$Claim", "TicketRealm$Part"), ("TicketRealm$Ticket", "TicketRealm$Part"), ("TicketRealm$Claim", "TicketRealm$Proof"), ("TicketRealm$Ticket", "TicketRealm$Proof"), ("TicketRealm$Part", "TicketRealm$Proof"), ("TicketRealm$Proof", "TicketRealm$Ticket"), ("TicketRealm$Claim", "TicketRealm$Ticket"), ("TicketRealm$Part", "TicketRealm$Ticket"), ("TicketRealm$Proof", "TicketRealm$Claim"), ("TicketRealm$Ticket", "TicketRealm$Claim"), ("TicketRealm$Part", "TicketRealm$Claim")]
def zt_arr : List String := ["TicketRealm$User", "TicketRealm$Claim", "TicketRealm$Seal"]
def zt_AA (U : State) : Prop := ∃ (comp c : ClassId) (k : Class), U.vm.findClass "[I" = some comp ∧ U.vm.classes[c]? = some k ∧ k.kind = .array comp (.array .int) ∧ U.vm.findClass "[[I" = some c
def zt_E (U : State) : Prop := (∀ q ∈ zt_cast, va_Nw (.castable q.1 q.2) U) ∧ (∀ q ∈ zt_nest, va_Nw (.methodLinkNest q.1 q.2.1 q.2.2.1 q.2.2.2) U) ∧ va_Nw (.declares ⟨"TicketRealm$Seal", "kind", "()I"⟩) U ∧ (∀ q ∈ zt_nc, va_Nc q.1 q.2 U) ∧ (∀ q ∈ zt_arr, va_AO q U) ∧ zt_AA U
theorem zt_AA.moved {u U : State} (hvm : u.vm.Alike U.vm) (h : zt_AA u) : zt_AA U := by
  obtain ⟨comp, c, k, h1, h3, h4, h5⟩ := h
  obtain ⟨k', hk', he⟩ := hvm.2.2 _ _ h3
  exact ⟨comp, c, k', by rw [hvm.findClass]; exact h1, hk', by rw [he]; exact h4, by rw [hvm.findClass]; exact h5⟩
theorem zt_E.warm {s U : State} (hW : s.WarmedH U.vm) (h : zt_E s) : zt_E U :=
  ⟨fun q hq => va_Nw.warmC hW (h.1 q hq), fun q hq => va_Nw.warmM hW (h.2.1 q hq), va_Nw.warmD hW h.2.2.1, fun q hq => (h.2.2.2.1 q hq).moved hW.alike, fun q hq => (h.2.2.2.2.1 q hq).moved hW.alike, h.2.2.2.2.2.moved hW.alike⟩
theorem zt_E.same {u U : State} (hv : u.vm = U.vm) (h : zt_E u) : zt_E U :=
  ⟨fun q hq => va_Nw.same rfl hv (h.1 q hq), fun q hq => va_Nw.same rfl hv (h.2.1 q hq), va_Nw.same rfl hv h.2.2.1, fun q hq => (h.2.2.2.1 q hq).moved (by rw [hv]; exact Vm.Alike.refl _), fun q hq => (h.2.2.2.2.1 q hq).moved (by rw [hv]; exact Vm.Alike.refl _), h.2.2.2.2.2.moved (by rw [hv]; exact Vm.Alike.refl _)⟩
def zw_K (Y : zw_Y) (U : State) : Prop := va_K Y.1 zw_cls (zw_tys Y.2) U ∧ zt_E U
theorem zw_K.warm {Y : zw_Y} {s U : State} (hW : s.WarmedH U.vm) (h : zw_K Y s) : zw_K Y U := ⟨va_K.moved hW.alike h.1, h.2.warm hW⟩
theorem zw_K.same {Y : zw_Y} {u U : State} (hv : u.vm = U.vm) (h : zw_K Y u) : zw_K Y U := ⟨va_K.moved (by rw [hv]; exact Vm.Alike.refl _) h.1, h.2.same hv⟩
